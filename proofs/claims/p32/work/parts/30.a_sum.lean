theorem comesC_lo {c : Nat → Int32} {y k0 x : Nat} (hx : x < 58) : comesC c y k0 x = if x = 13 + y then nI (tn (c (13 + y)) + 1) else if x = 22 + 12 * y + tn (c (13 + y)) then nI (tn (c 2)) else if x = 2 then nI (tn (c 2) + 1) else c x := by
  simp only [comesC, enterP, upd_ap]
  by_cases c2 : x = 13 + y
  · rw [if_pos c2, if_pos c2]
  · rw [if_neg c2, if_neg c2]
    by_cases c3 : x = 22 + 12 * y + tn (c (13 + y))
    · rw [if_pos c3, if_pos c3]
    · rw [if_neg c3, if_neg c3, if_neg (by omega), if_neg (by omega), if_neg (by omega), if_neg (by omega), if_neg (by omega), if_neg (by omega), if_neg (by omega), if_neg (by omega), if_neg (by omega)]
theorem comesC_q {c : Nat → Int32} {y k0 q j : Nat} (hl : 22 + 12 * y + tn (c (13 + y)) < 58) (hj : j < 10) (hq : q ≠ tn (c 2)) : comesC c y k0 (58 + 10 * q + j) = c (58 + 10 * q + j) := by
  simp only [comesC, enterP, upd_ap]
  rw [if_neg (by omega), if_neg (by omega), if_neg (by omega), if_neg (by omega), if_neg (by omega), if_neg (by omega), if_neg (by omega), if_neg (by omega), if_neg (by omega), if_neg (by omega), if_neg (by omega), if_neg (by omega)]
theorem comesC_p {c : Nat → Int32} {y k0 j : Nat} (hl : 22 + 12 * y + tn (c (13 + y)) < 58) (hj : j < 9) : comesC c y k0 (58 + 10 * tn (c 2) + j) = if j = 8 then c 0 - nI 5 else if j = 6 then c 0 else if j = 1 then nI y else if j = 0 then nI k0 else 0 := by
  simp only [comesC, enterP, upd_ap]
  rw [if_neg (by omega), if_neg (by omega)]
  rcases (show j = 0 ∨ j = 1 ∨ j = 2 ∨ j = 3 ∨ j = 4 ∨ j = 5 ∨ j = 6 ∨ j = 7 ∨ j = 8 by omega) with rfl | rfl | rfl | rfl | rfl | rfl | rfl | rfl | rfl
  · rw [if_neg (by omega), if_neg (by omega), if_neg (by omega), if_neg (by omega), if_neg (by omega), if_neg (by omega), if_neg (by omega), if_neg (by omega), if_pos (by omega), if_neg (by omega), if_neg (by omega), if_neg (by omega), if_pos rfl]
  · rw [if_neg (by omega), if_neg (by omega), if_neg (by omega), if_neg (by omega), if_neg (by omega), if_neg (by omega), if_neg (by omega), if_pos rfl, if_neg (by omega), if_neg (by omega), if_pos rfl]
  · rw [if_neg (by omega), if_neg (by omega), if_neg (by omega), if_neg (by omega), if_neg (by omega), if_pos rfl, if_neg (by omega), if_neg (by omega), if_neg (by omega), if_neg (by omega), nI_z]
  · rw [if_neg (by omega), if_neg (by omega), if_neg (by omega), if_neg (by omega), if_pos rfl, if_neg (by omega), if_neg (by omega), if_neg (by omega), if_neg (by omega), nI_z]
  · rw [if_neg (by omega), if_neg (by omega), if_neg (by omega), if_pos rfl, if_neg (by omega), if_neg (by omega), if_neg (by omega), if_neg (by omega), nI_z]
  · rw [if_neg (by omega), if_neg (by omega), if_neg (by omega), if_neg (by omega), if_neg (by omega), if_neg (by omega), if_pos rfl, if_neg (by omega), if_neg (by omega), if_neg (by omega), if_neg (by omega), nI_z]
  · rw [if_neg (by omega), if_neg (by omega), if_pos rfl, if_neg (by omega), if_pos rfl]
  · rw [if_neg (by omega), if_pos rfl, if_neg (by omega), if_neg (by omega), if_neg (by omega), if_neg (by omega), nI_z]
  · rw [if_pos rfl, if_pos rfl]
theorem Inv.setP {s : Nat → Int32} {T : Nat} (h : Inv T s) {i : Nat} (h6 : 6 ≤ i) (h9 : i < 10) (v : Int32) (hS : InvS (upd s i v)) : Inv T (upd s i v) := by
  have e : ∀ j, j < 6 ∨ 10 ≤ j → upd s i v j = s j := fun j hj => by rw [upd_ap, if_neg (by omega)]
  refine ⟨h.1, by rw [e 1 (by omega)]; exact h.2.1, by rw [e 2 (by omega)]; exact h.2.2.1, by rw [e 0 (by omega)]; exact h.2.2.2.1, fun l hl => ?_, fun l k hl hk => ?_, fun l j k hl hj hk q => ?_, fun p hp => ?_, hS⟩
  · rw [e 1 (by omega)] at hl
    unfold InvL; rw [e (10 + l) (by omega), e (13 + l) (by omega), e (16 + l) (by omega)]; exact h.L hl
  · rw [e 1 (by omega)] at hl; rw [e (13 + l) (by omega)] at hk
    unfold InvR; rw [e (22 + 12 * l + k) (by omega), e 2 (by omega), e (58 + 10 * tn (s (22 + 12 * l + k)) + 5) (by omega), e (58 + 10 * tn (s (22 + 12 * l + k)) + 1) (by omega)]; exact h.R hl hk
  · rw [e 1 (by omega)] at hl; rw [e (13 + l) (by omega)] at hj hk; rw [e (22 + 12 * l + j) (by omega), e (22 + 12 * l + k) (by omega)] at q
    exact h.D hl hj hk q
  · rw [e 2 (by omega)] at hp
    obtain ⟨p1, p2, p3, p4⟩ := h.P hp
    refine ⟨fun q => ?_, fun q => ?_, ?_, ?_⟩
    · rw [e (58 + 10 * p + 5) (by omega)] at q
      obtain ⟨l, a1, a2, k, a3, a4⟩ := p1 q
      exact ⟨l, by rw [e 1 (by omega)]; exact a1, by rw [e (58 + 10 * p + 1) (by omega)]; exact a2, k, by rw [e (13 + l) (by omega)]; exact a3, by rw [e (22 + 12 * l + k) (by omega)]; exact a4⟩
    · rw [e (58 + 10 * p + 5) (by omega)] at q; rw [e (58 + 10 * p + 1) (by omega)]; exact p2 q
    · rw [e (58 + 10 * p + 2) (by omega), e 0 (by omega)]; exact p3
    · rw [e (58 + 10 * p + 6) (by omega), e 0 (by omega)]; exact p4
/-! WHAT THE LAW ASKS OF A STATE BESIDE Inv: fates, sums over those who came, how far accounts go -/
def sumI (f : Nat → Int32) : Nat → Int32 | 0 => 0 | n + 1 => sumI f n + f n
theorem sumI_congr {f g : Nat → Int32} : ∀ {n : Nat}, (∀ i, i < n → f i = g i) → sumI f n = sumI g n
  | 0, _ => rfl
  | n + 1, h => by simp only [sumI]; rw [sumI_congr (f := f) (g := g) (fun i hi => h i (by omega)), h n (by omega)]
theorem sumI_1 {f g : Nat → Int32} {a : Nat} {d : Int32} : ∀ {n : Nat}, a < n → (∀ i, i < n → i ≠ a → f i = g i) → f a = g a + d → sumI f n = sumI g n + d
  | 0, h, _, _ => absurd h (Nat.not_lt_zero a)
  | n + 1, h, h0, hd => by
    simp only [sumI]
    by_cases e : a = n
    · rw [← e] at h0 ⊢
      rw [sumI_congr (f := f) (g := g) (fun i hi => h0 i (by omega) (by omega)), hd]; grind
    · rw [sumI_1 (f := f) (g := g) (a := a) (d := d) (by omega) (fun i hi hne => h0 i (by omega) hne) hd, h0 n (by omega) (fun z => e z.symm)]; grind
theorem sumI_2 {f g : Nat → Int32} {a b n : Nat} {d e : Int32} (ha : a < n) (hb : b < n) (hab : a ≠ b) (h0 : ∀ i, i < n → i ≠ a → i ≠ b → f i = g i) (hd : f a = g a + d) (he : f b = g b + e) : sumI f n = sumI g n + d + e := by
  have e1 := sumI_1 (f := fun i => if i = b then g b else f i) (g := g) (a := a) (d := d) (n := n) ha (fun i hi hne => by
    by_cases c : i = b
    · show (if i = b then g b else f i) = g i; rw [if_pos c, c]
    · show (if i = b then g b else f i) = g i; rw [if_neg c]; exact h0 i hi hne c) (by show (if a = b then g b else f a) = g a + d; rw [if_neg hab]; exact hd)
  have e2 := sumI_1 (f := f) (g := fun i => if i = b then g b else f i) (a := b) (d := e) (n := n) hb (fun i hi hne => by show f i = if i = b then g b else f i; rw [if_neg hne]) (by show f b = (if b = b then g b else f b) + e; rw [if_pos rfl]; exact he)
  rw [e2, e1]
theorem accN_sum (c : Nat → Int32) : ∀ n, accN c n = sumI (fun p => c (58 + 10 * p + 3)) n
  | 0 => nI_z
  | n + 1 => by simp only [accN, sumI]; rw [accN_sum c n]
/-- at most B away from 0 -/
def Bd (B : Int) (x : Int32) : Prop := ∃ z : Int, -B ≤ z ∧ z ≤ B ∧ x = Int32.ofInt z
theorem Bd.mono {A B : Int} {x : Int32} (h : Bd A x) (hab : A ≤ B) : Bd B x := by
  obtain ⟨z, h1, h2, h3⟩ := h
  exact ⟨z, by omega, by omega, h3⟩
theorem Bd.add {A B : Int} {x y : Int32} (h : Bd A x) (g : Bd B y) : Bd (A + B) (x + y) := by
  obtain ⟨z, h1, h2, h3⟩ := h
  obtain ⟨w, g1, g2, g3⟩ := g
  exact ⟨z + w, by omega, by omega, by rw [h3, g3]; exact (Int32.ofInt_add z w).symm⟩
theorem Bd.neg {B : Int} {y : Int32} (g : Bd B y) : Bd B (-y) := by
  obtain ⟨w, g1, g2, g3⟩ := g
  exact ⟨-w, by omega, by omega, by rw [g3]; exact (Int32.ofInt_neg w).symm⟩
theorem Bd.sub {A B : Int} {x y : Int32} (h : Bd A x) (g : Bd B y) : Bd (A + B) (x - y) := by
  have e : x - y = x + -y := by grind
  rw [e]; exact h.add g.neg
theorem Bd.n {j : Nat} (h : j < 2 ^ 31) : Bd (j : Int) (nI j) := by
  have e := nI_toInt h
  exact ⟨(nI j).toInt, by omega, by omega, (Int32.ofInt_toInt _).symm⟩
theorem Bd.of {B : Int} {x : Int32} (h : Bd B x) (hB : B < 2 ^ 31) : -B ≤ x.toInt ∧ x.toInt ≤ B := by
  obtain ⟨z, h1, h2, h3⟩ := h
  have e : (Int32.ofInt z).toInt = z := Int32.toInt_ofInt_of_le (by omega) (by omega)
  rw [h3, e]
  exact ⟨h1, h2⟩
/-- beside Inv: the places that were lost and won come to x, the accounts to what the house paid, each account at most B away from 0 -/
def Ex (B : Int) (x : Int32) (c : Nat → Int32) : Prop := 1 ≤ tn (c 1) ∧ (∀ p, p < tn (c 2) → c (58 + 10 * p + 5) = 0 ∨ c (58 + 10 * p + 5) = nI 1 ∨ c (58 + 10 * p + 5) = nI 2) ∧ sumI (fun p => c (58 + 10 * p + 7)) (tn (c 2)) = x ∧ sumI (fun p => c (58 + 10 * p + 3)) (tn (c 2)) = c 5 ∧ ∀ p, p < tn (c 2) → Bd B (c (58 + 10 * p + 3))
theorem Ex.same {B : Int} {x : Int32} {c t : Nat → Int32} (h : Ex B x c) (e1 : 1 ≤ tn (t 1)) (e2 : t 2 = c 2) (e5 : t 5 = c 5) (hf : ∀ p, p < tn (c 2) → t (58 + 10 * p + 5) = c (58 + 10 * p + 5) ∨ t (58 + 10 * p + 5) = nI 1 ∨ t (58 + 10 * p + 5) = nI 2) (e : ∀ p, p < tn (c 2) → t (58 + 10 * p + 3) = c (58 + 10 * p + 3) ∧ t (58 + 10 * p + 7) = c (58 + 10 * p + 7)) : Ex B x t := by
  obtain ⟨h1, h2, h3, h4, h5⟩ := h
  have s3 := sumI_congr (f := fun p => t (58 + 10 * p + 3)) (g := fun p => c (58 + 10 * p + 3)) (n := tn (c 2)) (fun p hp => (e p hp).1)
  have s7 := sumI_congr (f := fun p => t (58 + 10 * p + 7)) (g := fun p => c (58 + 10 * p + 7)) (n := tn (c 2)) (fun p hp => (e p hp).2)
  unfold Ex
  rw [e2, e5, s3, s7]
  refine ⟨e1, fun p hp => ?_, h3, h4, fun p hp => ?_⟩
  · rcases hf p hp with q | q
    · rw [q]; exact h2 p hp
    · exact Or.inr q
  · rw [(e p hp).1]; exact h5 p hp
theorem Ex.mono {A B : Int} {x : Int32} {c : Nat → Int32} (h : Ex A x c) (hab : A ≤ B) : Ex B x c := ⟨h.1, h.2.1, h.2.2.1, h.2.2.2.1, fun p hp => (h.2.2.2.2 p hp).mono hab⟩
section EXA
variable {B : Int} {x : Int32} {c : Nat → Int32} {T : Nat}
theorem Ex.comes {l k0 : Nat} (h : Ex B x c) (hI : Inv T c) (hB : 0 ≤ B) (hl : l < tn (c 1)) (hp2 : tn (c 2) < 30) (hlen : tn (c (13 + l)) < 12) : Ex B x (comesC c l k0) := by
  have hnl3 := hI.nl3
  have hq : ∀ q j, j < 10 → q ≠ tn (c 2) → comesC c l k0 (58 + 10 * q + j) = c (58 + 10 * q + j) := fun q j hj hne => comesC_q (by omega) hj hne
  have n3 : comesC c l k0 (58 + 10 * tn (c 2) + 3) = 0 := by rw [comesC_p (by omega) (by omega), if_neg (by omega), if_neg (by omega), if_neg (by omega), if_neg (by omega)]
  have n5 : comesC c l k0 (58 + 10 * tn (c 2) + 5) = 0 := by rw [comesC_p (by omega) (by omega), if_neg (by omega), if_neg (by omega), if_neg (by omega), if_neg (by omega)]
  have n7 : comesC c l k0 (58 + 10 * tn (c 2) + 7) = 0 := by rw [comesC_p (by omega) (by omega), if_neg (by omega), if_neg (by omega), if_neg (by omega), if_neg (by omega)]
  have f1 : comesC c l k0 1 = c 1 := by rw [comesC_lo (by omega), if_neg (by omega), if_neg (by omega), if_neg (by omega)]
  have f2 : tn (comesC c l k0 2) = tn (c 2) + 1 := by rw [comesC_lo (by omega), if_neg (by omega), if_neg (by omega), if_pos rfl]; exact tn_nI (by omega)
  have f5 : comesC c l k0 5 = c 5 := by rw [comesC_lo (by omega), if_neg (by omega), if_neg (by omega), if_neg (by omega)]
  generalize comesC c l k0 = t at hq n3 n5 n7 f1 f2 f5 ⊢
  obtain ⟨h1, h2, h3, h4, h5⟩ := h
  have s3 := sumI_congr (f := fun p => t (58 + 10 * p + 3)) (g := fun p => c (58 + 10 * p + 3)) (n := tn (c 2)) (fun p hp => hq p 3 (by omega) (by omega))
  have s7 := sumI_congr (f := fun p => t (58 + 10 * p + 7)) (g := fun p => c (58 + 10 * p + 7)) (n := tn (c 2)) (fun p hp => hq p 7 (by omega) (by omega))
  unfold Ex
  rw [f1, f2, f5]
  refine ⟨h1, fun p hp => ?_, ?_, ?_, fun p hp => ?_⟩
  · by_cases e : p = tn (c 2)
    · rw [e]; exact Or.inl n5
    · rw [hq p 5 (by omega) e]; exact h2 p (by omega)
  · show sumI (fun p => t (58 + 10 * p + 7)) (tn (c 2)) + t (58 + 10 * tn (c 2) + 7) = x
    rw [n7, s7, h3]; grind
  · show sumI (fun p => t (58 + 10 * p + 3)) (tn (c 2)) + t (58 + 10 * tn (c 2) + 3) = c 5
    rw [n3, s3, h4]; grind
  · by_cases e : p = tn (c 2)
    · rw [e, n3]; exact ⟨0, by omega, by omega, by decide +kernel⟩
    · rw [hq p 3 (by omega) e]; exact h5 p (by omega)
theorem Inv.comesI {l k0 : Nat} (hI : Inv T c) (hl : l < tn (c 1)) (hp2 : tn (c 2) < 30) (hlen : tn (c (13 + l)) < 12) : Inv T (comesC c l k0) := by
  have hnl3 := hI.nl3
  have hp : ∀ j, j < 9 → comesC c l k0 (58 + 10 * tn (c 2) + j) = if j = 8 then c 0 - nI 5 else if j = 6 then c 0 else if j = 1 then nI l else if j = 0 then nI k0 else 0 := fun j hj => comesC_p (by omega) hj
  refine hI.comeG hl hp2 hlen (fun y _ hy => ?_) (fun q j hq hj _ => comesC_q (by omega) hj (by omega)) ?_ ?_ ?_ ?_
  · rw [comesC_lo hy]
    by_cases c1 : y = 13 + l
    · rw [if_pos c1, if_neg (by omega), if_pos c1]
    · rw [if_neg c1]
      by_cases c3 : y = 22 + 12 * l + tn (c (13 + l))
      · rw [if_pos c3, if_neg (by omega), if_neg c1, if_pos c3]
      · rw [if_neg c3]
        by_cases c2 : y = 2
        · rw [if_pos c2, if_pos c2]
        · rw [if_neg c2, if_neg c2, if_neg c1, if_neg c3]
  · rw [hp 1 (by omega), if_neg (by omega), if_neg (by omega), if_pos rfl]
  · rw [hp 5 (by omega), if_neg (by omega), if_neg (by omega), if_neg (by omega), if_neg (by omega)]
  · rw [hp 2 (by omega), if_neg (by omega), if_neg (by omega), if_neg (by omega), if_neg (by omega), nI_z]
  · rw [hp 6 (by omega), if_neg (by omega), if_pos rfl]
theorem Ex.goes {p : Nat} (h : Ex B x c) (hI : Inv T c) (hp : p < tn (c 2)) (hs9 : c (58 + 10 * p + 5) = 0) : Ex B x (goesS c p) := by
  obtain ⟨a1, -, a3, -, -⟩ := hI.plcs hp hs9
  have hl3 := Nat.lt_of_lt_of_le a1 hI.nl3
  have h12 := hI.len12 a1
  refine h.same ?_ ?_ ?_ (fun q hq => ?_) (fun q hq => ⟨?_, ?_⟩)
  · unfold goesS; rw [lvF_h (by omega)]; exact h.1
  · unfold goesS; rw [lvF_h (by omega)]
  · unfold goesS; rw [lvF_h (by omega)]
  · unfold goesS
    rw [lvF_p5 hl3 h12]
    by_cases e : q = p
    · rw [if_pos e]; exact Or.inr (Or.inr rfl)
    · rw [if_neg e]; exact Or.inl rfl
  · unfold goesS; exact lvF_pj hl3 h12 (by omega) (by omega) (by omega)
  · unfold goesS; exact lvF_pj hl3 h12 (by omega) (by omega) (by omega)
theorem exchF_3 {p q l i j r : Nat} {pay : Int32} (h1 : 22 + 12 * l + i < 58) (h2 : 22 + 12 * l + j < 58) (hpq : p ≠ q) : exchF c p q l i j pay (58 + 10 * r + 3) = if r = q then c (58 + 10 * q + 3) + pay else if r = p then c (58 + 10 * p + 3) - pay else c (58 + 10 * r + 3) := by
  simp only [exchF, upd_ap]
  rw [if_neg (by omega), if_neg (by omega), if_neg (by omega)]
  by_cases e : r = q
  · rw [if_pos (by omega), if_pos e, if_neg (by omega), if_neg (by omega), if_neg (by omega)]
  · rw [if_neg (by omega), if_neg e]
    by_cases e2 : r = p
    · rw [if_pos (by omega), if_pos e2, if_neg (by omega), if_neg (by omega)]
    · rw [if_neg (by omega), if_neg e2, if_neg (by omega), if_neg (by omega)]
theorem exchF_7 {p q l i j r : Nat} {pay : Int32} (h1 : 22 + 12 * l + i < 58) (h2 : 22 + 12 * l + j < 58) (hpq : p ≠ q) : exchF c p q l i j pay (58 + 10 * r + 7) = if r = q then c (58 + 10 * q + 7) + nI (i - j) else if r = p then c (58 + 10 * p + 7) - nI (i - j) else c (58 + 10 * r + 7) := by
  simp only [exchF, upd_ap]
  rw [if_neg (by omega)]
  by_cases e : r = q
  · rw [if_pos (by omega), if_pos e, if_neg (by omega), if_neg (by omega), if_neg (by omega), if_neg (by omega), if_neg (by omega)]
  · rw [if_neg (by omega), if_neg e]
    by_cases e2 : r = p
    · rw [if_pos (by omega), if_pos e2, if_neg (by omega), if_neg (by omega), if_neg (by omega), if_neg (by omega)]
    · rw [if_neg (by omega), if_neg e2, if_neg (by omega), if_neg (by omega), if_neg (by omega), if_neg (by omega)]
theorem Inv.exL {p q : Nat} (hI : Inv T c) (hp : p < tn (c 2)) (hq : q < tn (c 2)) (hm : MayX c p q) : p ≠ q ∧ liN c p < tn (c 1) ∧ liN c p < 3 ∧ plc c p < 12 ∧ plc c q < plc c p ∧ liN c q = liN c p ∧ plc c p < tn (c (13 + liN c p)) := by
  obtain ⟨m1, m2, m3, m4, -⟩ := hm
  obtain ⟨a1, -, a3, -, -⟩ := hI.plcs hp m1
  have hl3 := Nat.lt_of_lt_of_le a1 hI.nl3
  have h12 := hI.len12 a1
  have hli : liN c q = liN c p := by show tn _ = tn _; rw [m3]
  refine ⟨fun e => ?_, a1, hl3, by omega, m4, hli, a3⟩
  rw [e] at m4; omega
theorem Ex.exch {p q : Nat} (h : Ex B x c) (hI : Inv T c) (hp : p < tn (c 2)) (hq : q < tn (c 2)) (hm : MayX c p q) : Ex (B + 99) x (exchS c p q) := by
  obtain ⟨hne, hl, hl3, hi12, hji, -, -⟩ := hI.exL hp hq hm
  have h9 := hI.price9
  have k3 : ∀ r, exchS c p q (58 + 10 * r + 3) = if r = q then c (58 + 10 * q + 3) + nI (plc c p - plc c q) * c 8 else if r = p then c (58 + 10 * p + 3) - nI (plc c p - plc c q) * c 8 else c (58 + 10 * r + 3) := fun r => exchF_3 (by omega) (by omega) hne
  have k7 : ∀ r, exchS c p q (58 + 10 * r + 7) = if r = q then c (58 + 10 * q + 7) + nI (plc c p - plc c q) else if r = p then c (58 + 10 * p + 7) - nI (plc c p - plc c q) else c (58 + 10 * r + 7) := fun r => exchF_7 (by omega) (by omega) hne
  have k5 : ∀ r, exchS c p q (58 + 10 * r + 5) = c (58 + 10 * r + 5) := fun r => exchF_p (by omega) (by omega) (by omega) (by omega) (by omega)
  have f1 : exchS c p q 1 = c 1 := by unfold exchS; rw [exchF_row _ (by omega) (by omega), if_neg (by omega), if_neg (by omega)]
  have f2 : exchS c p q 2 = c 2 := by unfold exchS; rw [exchF_row _ (by omega) (by omega), if_neg (by omega), if_neg (by omega)]
  have f5 : exchS c p q 5 = c 5 := by unfold exchS; rw [exchF_row _ (by omega) (by omega), if_neg (by omega), if_neg (by omega)]
  have hpay : Bd 99 (nI (plc c p - plc c q) * c 8) := by
    rw [hI.price, pk_mul]
    have hb : (plc c p - plc c q) * tn (c 8) ≤ 11 * 9 := Nat.mul_le_mul (by omega) h9
    exact (Bd.n (by omega)).mono (by omega)
  generalize nI (plc c p - plc c q) * c 8 = pay at k3 hpay
  generalize nI (plc c p - plc c q) = fb at k7
  generalize exchS c p q = t at k3 k7 k5 f1 f2 f5 ⊢
  obtain ⟨h1, h2, h3, h4, h5⟩ := h
  have s3 := sumI_2 (f := fun r => t (58 + 10 * r + 3)) (g := fun r => c (58 + 10 * r + 3)) (a := p) (b := q) (n := tn (c 2)) (d := -pay) (e := pay) hp hq hne (fun r _ r1 r2 => by show t (58 + 10 * r + 3) = c (58 + 10 * r + 3); rw [k3, if_neg r2, if_neg r1]) (by show t (58 + 10 * p + 3) = c (58 + 10 * p + 3) + -pay; rw [k3, if_neg hne, if_pos rfl]; grind) (by show t (58 + 10 * q + 3) = c (58 + 10 * q + 3) + pay; rw [k3, if_pos rfl])
  have s7 := sumI_2 (f := fun r => t (58 + 10 * r + 7)) (g := fun r => c (58 + 10 * r + 7)) (a := p) (b := q) (n := tn (c 2)) (d := -fb) (e := fb) hp hq hne (fun r _ r1 r2 => by show t (58 + 10 * r + 7) = c (58 + 10 * r + 7); rw [k7, if_neg r2, if_neg r1]) (by show t (58 + 10 * p + 7) = c (58 + 10 * p + 7) + -fb; rw [k7, if_neg hne, if_pos rfl]; grind) (by show t (58 + 10 * q + 7) = c (58 + 10 * q + 7) + fb; rw [k7, if_pos rfl])
  unfold Ex
  rw [f1, f2, f5, s3, s7, h3, h4]
  refine ⟨h1, fun r hr => by rw [k5]; exact h2 r hr, by grind, by grind, fun r hr => ?_⟩
  rw [k3]
  by_cases e : r = q
  · rw [if_pos e]; exact (h5 q hq).add hpay
  · rw [if_neg e]
    by_cases e2 : r = p
    · rw [if_pos e2]; exact (h5 p hp).sub hpay
    · rw [if_neg e2]; exact (h5 r hr).mono (by omega)
theorem Ex.merges {l o : Nat} (h : Ex B x c) (hI : Inv T c) (hl : l < tn (c 1)) (ho : o < tn (c 1)) (hlo : l ≠ o) (hab : tn (c (13 + l)) + tn (c (13 + o)) ≤ 12) : Ex B x (mergesF c l o) ∧ mergesF c l o 0 = c 0 ∧ mergesF c l o 2 = c 2 ∧ ∀ q, mergesF c l o (58 + 10 * q + 8) = c (58 + 10 * q + 8) := by
  have hnl3 := hI.nl3
  have hm := hI.midK hl ho hlo hab
  have e13 : mid c l o (13 + l) = nI (tn (c (13 + l)) + tn (c (13 + o))) := by rw [mid_h hI hl ho hlo hab (by omega), if_neg (by omega), if_neg (by omega), if_pos rfl]
  have t13 : tn (mid c l o (13 + l)) = tn (c (13 + l)) + tn (c (13 + o)) := by rw [e13]; exact tn_nI (by omega)
  have k : ∀ q j, j < 10 → j ≠ 1 → mergesF c l o (58 + 10 * q + j) = c (58 + 10 * q + j) := fun q j hj h1 => by
    rw [hI.merges_eq hl ho hlo hab]
    unfold srtS
    rw [rwF_out (by rw [t13]; omega), mid_pj hI hl ho hlo hab hj h1]
  have f : ∀ i, i < 10 → mergesF c l o i = c i := fun i hi => by
    rw [hI.merges_eq hl ho hlo hab]
    unfold srtS
    rw [rwF_out (by omega), mid_h hI hl ho hlo hab (by omega), if_neg (by omega), if_neg (by omega), if_neg (by omega), if_neg (by omega)]
  exact ⟨h.same (by rw [f 1 (by omega)]; exact h.1) (f 2 (by omega)) (f 5 (by omega)) (fun p _ => Or.inl (k p 5 (by omega) (by omega))) (fun p _ => ⟨k p 3 (by omega) (by omega), k p 7 (by omega) (by omega)⟩), f 0 (by omega), f 2 (by omega), fun q => k q 8 (by omega) (by omega)⟩
theorem addLS_e (c : Nat → Int32) (y : Int32) : ∀ i, addLS c y i = if i = 1 then nI (tn (c 1) + 1) else if i = 13 + tn (c 1) then nI 0 else if i = 19 + tn (c 1) then nI 0 else if i = 16 + tn (c 1) then nI 0 else if i = 10 + tn (c 1) then y else c i := fun i => by
  unfold addLS
  rw [upd_ap, upd_ap, upd_ap, upd_ap, upd_ap]
theorem Ex.addL (h : Ex B x c) (hl3 : tn (c 1) < 3) (y : Int32) : Ex B x (addLS c y) := by
  have k : ∀ i, i ≠ 1 → i < 10 ∨ 22 ≤ i → addLS c y i = c i := fun i h1 h2 => by rw [addLS_e, if_neg h1, if_neg (by omega), if_neg (by omega), if_neg (by omega), if_neg (by omega)]
  have f1 : tn (addLS c y 1) = tn (c 1) + 1 := by rw [addLS_e, if_pos rfl]; exact tn_nI (by omega)
  exact h.same (by omega) (k 2 (by omega) (by omega)) (k 5 (by omega) (by omega)) (fun p _ => Or.inl (k _ (by omega) (by omega))) (fun p _ => ⟨k _ (by omega) (by omega), k _ (by omega) (by omega)⟩)
theorem Inv.addL (h : Inv T c) (hl3 : tn (c 1) < 3) {k : Nat} (h1 : 1 ≤ k) (h20 : k ≤ 20) : Inv T (addLS c (nI k)) := by
  have e : ∀ j, j ≠ 1 → (j < 10 ∨ 22 ≤ j ∨ (j ≠ 13 + tn (c 1) ∧ j ≠ 19 + tn (c 1) ∧ j ≠ 16 + tn (c 1) ∧ j ≠ 10 + tn (c 1))) → addLS c (nI k) j = c j := fun j hj h2 => by rw [addLS_e, if_neg hj, if_neg (by omega), if_neg (by omega), if_neg (by omega), if_neg (by omega)]
  have e1 : addLS c (nI k) 1 = nI (tn (c 1) + 1) := by rw [addLS_e, if_pos rfl]
  have et : tn (addLS c (nI k) 1) = tn (c 1) + 1 := by rw [e1, tn_nI (by omega)]
  have el : addLS c (nI k) (10 + tn (c 1)) = nI k := by rw [addLS_e, if_neg (by omega), if_neg (by omega), if_neg (by omega), if_neg (by omega), if_pos rfl]
  have z1 : addLS c (nI k) (13 + tn (c 1)) = nI 0 := by rw [addLS_e, if_neg (by omega), if_pos rfl]
  have z2 : addLS c (nI k) (16 + tn (c 1)) = nI 0 := by rw [addLS_e, if_neg (by omega), if_neg (by omega), if_neg (by omega), if_pos rfl]
  generalize addLS c (nI k) = u at e e1 et el z1 z2 ⊢
  have z0 : tn (nI 0) = 0 := tn_nI (by omega)
  refine ⟨h.1, by rw [e1]; exact isN_nI (by omega), by rw [e 2 (by omega) (by omega)]; exact h.2.2.1, by rw [e 0 (by omega) (by omega)]; exact h.2.2.2.1, fun l hl => ?_, fun l j hl hk => ?_, fun l j i hl hj hk q => ?_, fun p hp => ?_, ?_⟩
  · rw [et] at hl
    unfold InvL
    by_cases q : l = tn (c 1)
    · rw [q, el, z1, z2, z0, tn_nI (by omega)]
      exact ⟨isN_nI h20, isN_nI (n := 0) (by omega), isN_nI (n := 0) (by omega), by omega⟩
    · rw [e (10 + l) (by omega) (by omega), e (13 + l) (by omega) (by omega), e (16 + l) (by omega) (by omega)]; exact h.L (by omega)
  · rw [et] at hl
    by_cases q : l = tn (c 1)
    · rw [q, z1, z0] at hk; omega
    · rw [e (13 + l) (by omega) (by omega)] at hk
      unfold InvR; rw [e (22 + 12 * l + j) (by omega) (by omega), e 2 (by omega) (by omega), e (58 + 10 * tn (c (22 + 12 * l + j)) + 5) (by omega) (by omega), e (58 + 10 * tn (c (22 + 12 * l + j)) + 1) (by omega) (by omega)]; exact h.R (by omega) hk
  · rw [et] at hl
    by_cases q2 : l = tn (c 1)
    · rw [q2, z1, z0] at hk; omega
    · rw [e (13 + l) (by omega) (by omega)] at hj hk; rw [e (22 + 12 * l + j) (by omega) (by omega), e (22 + 12 * l + i) (by omega) (by omega)] at q
      exact h.D (by omega) hj hk q
  · rw [e 2 (by omega) (by omega)] at hp
    obtain ⟨p1, p2, p3, p4⟩ := h.P hp
    refine ⟨fun q => ?_, fun q => ?_, ?_, ?_⟩
    · rw [e (58 + 10 * p + 5) (by omega) (by omega)] at q
      obtain ⟨l, a1, a2, j, a3, a4⟩ := p1 q
      exact ⟨l, by rw [et]; omega, by rw [e (58 + 10 * p + 1) (by omega) (by omega)]; exact a2, j, by rw [e (13 + l) (by omega) (by omega)]; exact a3, by rw [e (22 + 12 * l + j) (by omega) (by omega)]; exact a4⟩
    · rw [e (58 + 10 * p + 5) (by omega) (by omega)] at q; rw [e (58 + 10 * p + 1) (by omega) (by omega)]; exact p2 q
    · rw [e (58 + 10 * p + 2) (by omega) (by omega), e 0 (by omega) (by omega)]; exact p3
    · rw [e (58 + 10 * p + 6) (by omega) (by omega), e 0 (by omega) (by omega)]; exact p4
  · unfold InvS
    rw [e 6 (by omega) (by omega), e 7 (by omega) (by omega), e 8 (by omega) (by omega), e 9 (by omega) (by omega)]
    exact h.S
theorem Ex.set (h : Ex B x c) {k : Nat} (h6 : 6 ≤ k) (h10 : k < 10) (y : Int32) : Ex B x (upd c k y) := by
  have e : ∀ i, i ≠ k → upd c k y i = c i := fun i hi => by rw [upd_ap, if_neg hi]
  exact h.same (by rw [e 1 (by omega)]; exact h.1) (e 2 (by omega)) (e 5 (by omega)) (fun p _ => Or.inl (e _ (by omega))) (fun p _ => ⟨e _ (by omega), e _ (by omega)⟩)
end EXA
