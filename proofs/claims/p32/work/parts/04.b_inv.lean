/-! WHAT HOLDS OF EVERY STATE, and the faults of the calls -/
/-- the first place that holds p, out of n places from k on; -1 for none -/
def plG (f : Nat → Int32) (p : Int32) : Nat → Nat → Int32 | 0, _ => -1 | n + 1, k => if f k = p then nI k else plG f p n (k + 1)
def isN (x : Int32) (b : Nat) : Prop := ∃ n : Nat, n ≤ b ∧ x = nI n
theorem tn_nI {j : Nat} (h : j < 2 ^ 31) : tn (nI j) = j := nI_clamp h
theorem isN.le {x : Int32} {b : Nat} (h : isN x b) (hb : b < 2 ^ 31) : tn x ≤ b := by
  obtain ⟨n, hn, rfl⟩ := h
  rw [tn_nI (by omega)]; exact hn
theorem isN.eq {x : Int32} {b : Nat} (h : isN x b) (hb : b < 2 ^ 31) : x = nI (tn x) := by
  obtain ⟨n, hn, rfl⟩ := h
  rw [tn_nI (by omega)]
theorem isN.mono {x : Int32} {a b : Nat} (h : isN x a) (hab : a ≤ b) : isN x b := by
  obtain ⟨n, hn, e⟩ := h; exact ⟨n, by omega, e⟩
theorem isN_nI {n b : Nat} (h : n ≤ b) : isN (nI n) b := ⟨n, h, rfl⟩
/-- a line: its pace, its length, what its counter worked -/
def InvL (s : Nat → Int32) (l : Nat) : Prop := isN (s (10 + l)) 20 ∧ isN (s (13 + l)) 12 ∧ isN (s (16 + l)) 19 ∧ tn (s (16 + l)) < tn (s (10 + l))
/-- a place of a line: one who stands there -/
def InvR (s : Nat → Int32) (l k : Nat) : Prop := isN (s (22 + 12 * l + k)) 29 ∧ tn (s (22 + 12 * l + k)) < tn (s 2) ∧ s (58 + 10 * tn (s (22 + 12 * l + k)) + 5) = 0 ∧ s (58 + 10 * tn (s (22 + 12 * l + k)) + 1) = nI l
/-- a person: stands at a place of a line, or in none; times up to now -/
def InvP (s : Nat → Int32) (p : Nat) : Prop := (s (58 + 10 * p + 5) = 0 → ∃ l, l < tn (s 1) ∧ s (58 + 10 * p + 1) = nI l ∧ ∃ k, k < tn (s (13 + l)) ∧ s (22 + 12 * l + k) = nI p) ∧ (s (58 + 10 * p + 5) ≠ 0 → s (58 + 10 * p + 1) = -1) ∧ isN (s (58 + 10 * p + 2)) (tn (s 0)) ∧ isN (s (58 + 10 * p + 6)) (tn (s 0))
def InvS (s : Nat → Int32) : Prop := (isN (s 6) 99 ∧ 10 ≤ tn (s 6)) ∧ isN (s 7) 50 ∧ (isN (s 8) 9 ∧ 1 ≤ tn (s 8)) ∧ isN (s 9) 5 ∧ 1 ≤ tn (s 9)
def Inv (T : Nat) (s : Nat → Int32) : Prop := T ≤ 1000000 ∧ isN (s 1) 3 ∧ isN (s 2) 30 ∧ isN (s 0) T ∧ (∀ l, l < tn (s 1) → InvL s l) ∧ (∀ l k, l < tn (s 1) → k < tn (s (13 + l)) → InvR s l k) ∧ (∀ l j k, l < tn (s 1) → j < tn (s (13 + l)) → k < tn (s (13 + l)) → s (22 + 12 * l + j) = s (22 + 12 * l + k) → j = k) ∧ (∀ p, p < tn (s 2) → InvP s p) ∧ InvS s
section INV
variable {T : Nat} {s : Nat → Int32}
theorem Inv.nl (h : Inv T s) : s 1 = nI (tn (s 1)) := h.2.1.eq (by decide)
theorem Inv.nl3 (h : Inv T s) : tn (s 1) ≤ 3 := h.2.1.le (by decide)
theorem Inv.np (h : Inv T s) : s 2 = nI (tn (s 2)) := h.2.2.1.eq (by decide)
theorem Inv.np30 (h : Inv T s) : tn (s 2) ≤ 30 := h.2.2.1.le (by decide)
theorem Inv.T6 (h : Inv T s) : T ≤ 1000000 := h.1
theorem Inv.now (h : Inv T s) : s 0 = nI (tn (s 0)) := h.2.2.2.1.eq (by have := h.1; omega)
theorem Inv.nowT (h : Inv T s) : tn (s 0) ≤ T := h.2.2.2.1.le (by have := h.1; omega)
theorem Inv.L (h : Inv T s) {l : Nat} (hl : l < tn (s 1)) : InvL s l := h.2.2.2.2.1 l hl
theorem Inv.R (h : Inv T s) {l k : Nat} (hl : l < tn (s 1)) (hk : k < tn (s (13 + l))) : InvR s l k := h.2.2.2.2.2.1 l k hl hk
theorem Inv.D (h : Inv T s) {l j k : Nat} (hl : l < tn (s 1)) (hj : j < tn (s (13 + l))) (hk : k < tn (s (13 + l))) (e : s (22 + 12 * l + j) = s (22 + 12 * l + k)) : j = k := h.2.2.2.2.2.2.1 l j k hl hj hk e
theorem Inv.P (h : Inv T s) {p : Nat} (hp : p < tn (s 2)) : InvP s p := h.2.2.2.2.2.2.2.1 p hp
theorem Inv.S (h : Inv T s) : InvS s := h.2.2.2.2.2.2.2.2
theorem Inv.len (h : Inv T s) {l : Nat} (hl : l < tn (s 1)) : s (13 + l) = nI (tn (s (13 + l))) := (h.L hl).2.1.eq (by decide)
theorem Inv.len12 (h : Inv T s) {l : Nat} (hl : l < tn (s 1)) : tn (s (13 + l)) ≤ 12 := (h.L hl).2.1.le (by decide)
theorem Inv.pace (h : Inv T s) {l : Nat} (hl : l < tn (s 1)) : s (10 + l) = nI (tn (s (10 + l))) := (h.L hl).1.eq (by decide)
theorem Inv.pace20 (h : Inv T s) {l : Nat} (hl : l < tn (s 1)) : tn (s (10 + l)) ≤ 20 := (h.L hl).1.le (by decide)
theorem Inv.worked (h : Inv T s) {l : Nat} (hl : l < tn (s 1)) : s (16 + l) = nI (tn (s (16 + l))) := (h.L hl).2.2.1.eq (by decide)
theorem Inv.workedP (h : Inv T s) {l : Nat} (hl : l < tn (s 1)) : tn (s (16 + l)) < tn (s (10 + l)) := (h.L hl).2.2.2
theorem Inv.row (h : Inv T s) {l k : Nat} (hl : l < tn (s 1)) (hk : k < tn (s (13 + l))) : s (22 + 12 * l + k) = nI (tn (s (22 + 12 * l + k))) := (h.R hl hk).1.eq (by decide)
theorem Inv.rowP (h : Inv T s) {l k : Nat} (hl : l < tn (s 1)) (hk : k < tn (s (13 + l))) : tn (s (22 + 12 * l + k)) < tn (s 2) := (h.R hl hk).2.1
theorem Inv.stood (h : Inv T s) {p : Nat} (hp : p < tn (s 2)) : s (58 + 10 * p + 2) = nI (tn (s (58 + 10 * p + 2))) := (h.P hp).2.2.1.eq (by have := h.nowT; have := h.1; omega)
theorem Inv.stoodT (h : Inv T s) {p : Nat} (hp : p < tn (s 2)) : tn (s (58 + 10 * p + 2)) ≤ tn (s 0) := (h.P hp).2.2.1.le (by have := h.nowT; have := h.1; omega)
theorem Inv.price (h : Inv T s) : s 8 = nI (tn (s 8)) := h.S.2.2.1.1.eq (by decide)
theorem Inv.price9 (h : Inv T s) : tn (s 8) ≤ 9 := h.S.2.2.1.1.le (by decide)
theorem Inv.jump (h : Inv T s) : s 9 = nI (tn (s 9)) := h.S.2.2.2.1.eq (by decide)
theorem Inv.jump5 (h : Inv T s) : tn (s 9) ≤ 5 := h.S.2.2.2.1.le (by decide)
theorem Inv.jump1 (h : Inv T s) : 1 ≤ tn (s 9) := h.S.2.2.2.2
theorem Inv.limit (h : Inv T s) : s 6 = nI (tn (s 6)) := h.S.1.1.eq (by decide)
theorem Inv.limit99 (h : Inv T s) : tn (s 6) ≤ 99 := h.S.1.1.le (by decide)
theorem Inv.fee (h : Inv T s) : s 7 = nI (tn (s 7)) := h.S.2.1.eq (by decide)
theorem Inv.fee50 (h : Inv T s) : tn (s 7) ≤ 50 := h.S.2.1.le (by decide)
/-- the line of one who stands, and the place -/
theorem Inv.st (h : Inv T s) {p : Nat} (hp : p < tn (s 2)) (hs : s (58 + 10 * p + 5) = 0) : ∃ l k, l < tn (s 1) ∧ s (58 + 10 * p + 1) = nI l ∧ k < tn (s (13 + l)) ∧ s (22 + 12 * l + k) = nI p := by
  obtain ⟨l, hl, h1, k, hk, h2⟩ := (h.P hp).1 hs
  exact ⟨l, k, hl, h1, hk, h2⟩
theorem Inv.ns (h : Inv T s) {p : Nat} (hp : p < tn (s 2)) (hs : ¬ s (58 + 10 * p + 5) = 0) : s (58 + 10 * p + 1) = -1 := (h.P hp).2.1 hs
end INV
theorem mplG_out {f : Nat → Int32} {p : Int32} : ∀ {n : Nat}, (∀ k, k < n → f k ≠ p) → mplG f p n = -1
  | 0, _ => rfl
  | n + 1, h => by
    simp only [mplG]
    rw [if_neg (h n (by omega))]
    exact mplG_out (fun k hk => h k (by omega))
theorem mplG_in {f : Nat → Int32} {p : Int32} {k : Nat} (hk : f k = p) : ∀ {n : Nat}, k < n → (∀ j, j < n → f j = p → j = k) → mplG f p n = nI k
  | 0, h, _ => by omega
  | n + 1, h, hu => by
    simp only [mplG]
    by_cases e : f n = p
    · rw [if_pos e, hu n (by omega) e]
    · rw [if_neg e]
      refine mplG_in hk ?_ (fun j hj => hu j (by omega))
      rcases Nat.lt_or_eq_of_le (Nat.le_of_lt_succ h) with h' | h'
      · exact h'
      · exact absurd (h' ▸ hk) e
/-- the line in which p stands, as a number -/
abbrev liN (s : Nat → Int32) (p : Nat) : Nat := tn (s (58 + 10 * p + 1))
/-- the place at which p stands -/
def plc (s : Nat → Int32) (p : Nat) : Nat := tn (mplG (fun k => s (22 + 12 * liN s p + k)) (nI p) (tn (s (13 + liN s p))))
theorem Inv.plcs {T : Nat} {s : Nat → Int32} (h : Inv T s) {p : Nat} (hp : p < tn (s 2)) (hs : s (58 + 10 * p + 5) = 0) : liN s p < tn (s 1) ∧ s (58 + 10 * p + 1) = nI (liN s p) ∧ plc s p < tn (s (13 + liN s p)) ∧ s (22 + 12 * liN s p + plc s p) = nI p ∧ mplG (fun k => s (22 + 12 * liN s p + k)) (nI p) (tn (s (13 + liN s p))) = nI (plc s p) := by
  obtain ⟨l, k, hl, e1, hk, e2⟩ := h.st hp hs
  have hl3 := h.nl3
  have h12 := h.len12 hl
  have el : liN s p = l := by
    show tn (s (58 + 10 * p + 1)) = l
    rw [e1]; exact tn_nI (by omega)
  have em : mplG (fun k => s (22 + 12 * l + k)) (nI p) (tn (s (13 + l))) = nI k := mplG_in (f := fun k => s (22 + 12 * l + k)) e2 hk (fun j hj e => h.D hl hj hk (e.trans e2.symm))
  have ep : plc s p = k := by
    unfold plc
    rw [el, em]; exact tn_nI (by omega)
  rw [el, ep]
  exact ⟨hl, e1, hk, e2, em⟩
theorem plG_in {f : Nat → Int32} {p : Int32} {k : Nat} (hk : f k = p) : ∀ {n i : Nat}, i ≤ k → k < i + n → (∀ j, i ≤ j → j < k → f j ≠ p) → plG f p n i = nI k
  | 0, i, h1, h2, _ => by omega
  | n + 1, i, h1, h2, h => by
    simp only [plG]
    by_cases e : f i = p
    · rw [if_pos e]
      have : i = k := by
        rcases Nat.lt_or_eq_of_le h1 with h' | h'
        · exact absurd e (h i (Nat.le_refl _) h')
        · exact h'
      rw [this]
    · rw [if_neg e]
      have : i ≠ k := fun q => e (q ▸ hk)
      exact plG_in hk (by omega) (by omega) (fun j h3 h4 => h j (by omega) h4)
theorem Inv.plG {T : Nat} {s : Nat → Int32} (h : Inv T s) {p : Nat} (hp : p < tn (s 2)) (hs : s (58 + 10 * p + 5) = 0) : plG (fun k => s (22 + 12 * liN s p + k)) (nI p) (tn (s (13 + liN s p))) 0 = nI (plc s p) := by
  obtain ⟨h1, h2, h3, h4, -⟩ := h.plcs hp hs
  refine plG_in (f := fun k => s (22 + 12 * liN s p + k)) h4 (Nat.zero_le _) (by omega) (fun j _ hj e => ?_)
  have := h.D h1 (by omega) h3 (e.trans h4.symm)
  omega
noncomputable def comeFl (s : Nat → Int32) (l k : Int32) : Nat := ic (¬ Rg (tn (s 1)) l) 1 (ic (¬ Rg 3 k) 2 (ic (s 2 = nI 30 ∨ s (13 + tn l) = nI 12) 3 0))
noncomputable def goFl (s : Nat → Int32) (p : Int32) : Nat := ic (¬ Rg (tn (s 2)) p) 1 (ic (s (58 + 10 * tn p + 5) = 0) 0 2)
/-- whether p, who exists, may take the place of q, who exists -/
def MayX (s : Nat → Int32) (p q : Nat) : Prop := s (58 + 10 * p + 5) = 0 ∧ s (58 + 10 * q + 5) = 0 ∧ s (58 + 10 * p + 1) = s (58 + 10 * q + 1) ∧ plc s q < plc s p ∧ 0 ≤ s (58 + 10 * p + 3) - nI (plc s p - plc s q) * s 8 + s (58 + 10 * p + 2)
noncomputable def exchFl (s : Nat → Int32) (p q : Int32) : Nat := ic (¬ Rg (tn (s 2)) p ∨ ¬ Rg (tn (s 2)) q) 1 (ic (MayX s (tn p) (tn q)) 0 2)
/-- whether p, who exists, may jump -/
def MayJ (s : Nat → Int32) (p : Nat) : Prop := s (58 + 10 * p + 5) = 0 ∧ ¬ s (58 + 10 * p) = 0 ∧ 0 < plc s p ∧ (s (58 + 10 * p + 8) = -9 ∨ 5 ≤ s 0 - s (58 + 10 * p + 8))
noncomputable def jumpFl (s : Nat → Int32) (p : Int32) : Nat := ic (¬ Rg (tn (s 2)) p) 1 (ic (MayJ s (tn p)) 0 2)
noncomputable def mergeFl (s : Nat → Int32) (l o : Int32) : Nat := ic (¬ Rg (tn (s 1)) l ∨ ¬ Rg (tn (s 1)) o) 1 (ic (l = o) 2 (ic (tn (s (13 + tn l)) + tn (s (13 + tn o)) ≤ 12) 0 3))
theorem nI_m1 {n : Nat} (h : n < 2 ^ 31) : ¬ nI n = -1 := by
  intro e
  have h1 := nI_toInt h
  rw [e] at h1
  have e2 : (-1 : Int32).toInt = -1 := by decide +kernel
  omega
