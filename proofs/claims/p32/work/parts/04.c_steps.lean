/-! THE STEPS: pays, minute, jumps, merges -/
def overI (s : Nat → Int32) (p : Nat) : Int32 := s (58 + 10 * p + 2) - s 6
def Due (s : Nat → Int32) (p : Nat) : Prop := s (58 + 10 * p + 5) = 0 ∧ 0 ≤ overI s p ∧ overI s p - overI s p / nI 10 * nI 10 = 0
def payU (s : Nat → Int32) (p : Nat) : Nat → Int32 :=
  let s1 := upd s (58 + 10 * p + 3) (s (58 + 10 * p + 3) + s 7)
  let s2 := upd s1 (58 + 10 * p + 4) (s1 (58 + 10 * p + 4) + s1 7)
  upd s2 5 (s2 5 + s2 7)
noncomputable def payF (s : Nat → Int32) (p : Nat) : Nat → Int32 := ic (Due s p) (payU s p) s
noncomputable def payTo (s : Nat → Int32) : Nat → Nat → Int32 | 0 => s | n + 1 => payF (payTo s n) n
noncomputable def certF (t : Nat → Int32) (p : Nat) : Nat → Int32 := upd t (58 + 10 * p + 2) (t (58 + 10 * p + 2) + ic (t (58 + 10 * p + 5) = 0) (nI 1) (nI 0))
noncomputable def certTo (s : Nat → Int32) : Nat → Nat → Int32 | 0 => s | n + 1 => certF (certTo s n) n
/-- the counter of line l, not empty, works one minute more -/
def wk1 (s : Nat → Int32) (l : Nat) : Nat → Int32 := upd s (16 + l) (s (16 + l) + nI 1)
/-- the first of line l is served -/
def wk2 (t : Nat → Int32) (l : Nat) : Nat → Int32 :=
  let u := upd (leavesF t l 0 (tn (t (13 + l))) (tn (t (22 + 12 * l + 0))) (nI 1)) (16 + l) (nI 0)
  upd u (19 + l) (u (19 + l) + nI 1)
noncomputable def wkF (s : Nat → Int32) (l : Nat) : Nat → Int32 := ic (0 < tn (s (13 + l))) (ic (wk1 s l (16 + l) < wk1 s l (10 + l)) (wk1 s l) (wk2 (wk1 s l) l)) s
noncomputable def wkN (s : Nat → Int32) (l : Nat) : Nat := ic (0 < tn (s (13 + l))) (ic (wk1 s l (16 + l) < wk1 s l (10 + l)) 0 1) 0
noncomputable def workTo (s : Nat → Int32) : Nat → Nat → Int32 | 0 => s | n + 1 => wkF (workTo s n) n
noncomputable def workN (s : Nat → Int32) : Nat → Nat | 0 => 0 | n + 1 => workN s n + wkN (workTo s n) n
noncomputable def min1 (s : Nat → Int32) : Nat → Int32 := certTo (upd s 0 (s 0 + nI 1)) (tn (s 2))
noncomputable def min2 (s : Nat → Int32) : Nat → Int32 := workTo (min1 s) (tn (s 1))
noncomputable def minuteS (s : Nat → Int32) : Nat → Int32 := payTo (min2 s) (tn (s 2))
noncomputable def minuteN (s : Nat → Int32) : Nat := workN (min1 s) (tn (s 1))
noncomputable def goByS (s : Nat → Int32) : Nat → Nat → Int32 | 0 => s | n + 1 => minuteS (goByS s n)
noncomputable def goByN (s : Nat → Int32) : Nat → Nat | 0 => 0 | n + 1 => goByN s n + minuteN (goByS s n)
/-- p passes the one who stands at a + m - 1 -/
noncomputable def jst (t : Nat → Int32) (a m p : Nat) : Nat → Int32 :=
  let q := tn (t (a + m - 1))
  let t1 := upd t (a + m) (nI q)
  let t2 := upd t1 (58 + 10 * q + 3) (t1 (58 + 10 * q + 3) + t1 8)
  let t3 := upd t2 (58 + 10 * q + 7) (t2 (58 + 10 * q + 7) + nI 1)
  let t4 := upd t3 (58 + 10 * q + 4) (t3 (58 + 10 * q + 4) + t3 8)
  ic (t3 (58 + 10 * p + 0) = nI 1) (upd t4 5 (t4 5 + t4 8)) (upd t3 (58 + 10 * p + 3) (t3 (58 + 10 * p + 3) - t3 8))
noncomputable def jTo (s : Nat → Int32) (a m p : Nat) : Nat → Nat → Int32 | 0 => s | k + 1 => jst (jTo s a m p k) a (m - k) p
/-- p, at the place m of the line whose places begin at a, passes so many -/
noncomputable def jumpsF (s : Nat → Int32) (a m p steps : Nat) : Nat → Int32 :=
  let t1 := upd (jTo s a m p steps) (a + m - steps) (nI p)
  let t2 := upd t1 (58 + 10 * p + 7) (t1 (58 + 10 * p + 7) - nI steps)
  let t3 := upd t2 (58 + 10 * p + 8) (t2 0)
  upd t3 4 (t3 4 + nI 1)
/-- who stands at the place k of the line o goes to the end (n) of the line l -/
def mvF (t : Nat → Int32) (l o k n : Nat) : Nat → Int32 :=
  upd (upd (upd t (58 + 10 * tn (t (22 + 12 * o + k)) + 1) (nI l)) (22 + 12 * l + n) (nI (tn (t (22 + 12 * o + k))))) (13 + l) (nI (n + 1))
def mvTo (s : Nat → Int32) (l o n : Nat) : Nat → Nat → Int32 | 0 => s | k + 1 => mvF (mvTo s l o n k) l o k (n + k)
/-- whether p has to stand ahead of q -/
def Ahead (s : Nat → Int32) (p q : Nat) : Prop := 0 < s (58 + 10 * p + 2) - s (58 + 10 * q + 2) ∨ s (58 + 10 * p + 2) - s (58 + 10 * q + 2) = 0 ∧ p < q
noncomputable def bstF (t : Nat → Int32) (a k : Nat) : Nat → Int32 :=
  upd (upd t (a + k) (nI (ic (Ahead t (tn (t (a + k))) (tn (t (a + k + 1)))) (tn (t (a + k))) (tn (t (a + k + 1)))))) (a + k + 1) (nI (ic (Ahead t (tn (t (a + k))) (tn (t (a + k + 1)))) (tn (t (a + k + 1))) (tn (t (a + k)))))
noncomputable def bpass (t : Nat → Int32) (a : Nat) : Nat → Nat → Int32 | 0 => t | k + 1 => bstF (bpass t a k) a k
/-- the passes from m places down to 2 -/
noncomputable def bsort (a : Nat) : Nat → (Nat → Int32) → Nat → Int32 | 0, t => t | 1, t => t | m + 2, t => bsort a (m + 1) (bpass t a (m + 1))
noncomputable def mergesF (s : Nat → Int32) (l o : Nat) : Nat → Int32 :=
  bsort (22 + 12 * l) (tn (s (13 + l)) + tn (s (13 + o))) (upd (upd (mvTo s l o (tn (s (13 + l))) (tn (s (13 + o)))) (13 + o) (nI 0)) (16 + o) (nI 0))
theorem payF_out {s : Nat → Int32} {p i : Nat} (h : i ≠ 58 + 10 * p + 3 ∧ i ≠ 58 + 10 * p + 4 ∧ i ≠ 5) : payF s p i = s i := by
  unfold payF
  by_cases hd : Due s p
  · rw [ic_t hd]
    simp only [payU, upd_ap, if_neg h.1, if_neg h.2.1, if_neg h.2.2]
  · rw [ic_f hd]
theorem payTo_out {s : Nat → Int32} {i : Nat} : ∀ {n : Nat}, (∀ p, p < n → i ≠ 58 + 10 * p + 3 ∧ i ≠ 58 + 10 * p + 4) → i ≠ 5 → payTo s n i = s i
  | 0, _, _ => rfl
  | n + 1, h, h5 => by
    simp only [payTo]
    rw [payF_out ⟨(h n (by omega)).1, (h n (by omega)).2, h5⟩, payTo_out (fun p hp => h p (by omega)) h5]
theorem certTo_out {s : Nat → Int32} {i : Nat} : ∀ {n : Nat}, (∀ p, p < n → i ≠ 58 + 10 * p + 2) → certTo s n i = s i
  | 0, _ => rfl
  | n + 1, h => by
    simp only [certTo, certF, upd_ap]
    rw [if_neg (h n (by omega)), certTo_out (fun p hp => h p (by omega))]
theorem certTo_in {s : Nat → Int32} {p : Nat} : ∀ {n : Nat}, p < n → certTo s n (58 + 10 * p + 2) = s (58 + 10 * p + 2) + ic (s (58 + 10 * p + 5) = 0) (nI 1) (nI 0)
  | 0, h => by omega
  | n + 1, h => by
    simp only [certTo, certF, upd_ap]
    by_cases e : p = n
    · subst e
      rw [if_pos rfl, certTo_out (fun q hq => by omega), certTo_out (i := 58 + 10 * p + 5) (fun q hq => by omega)]
    · rw [if_neg (by omega), certTo_in (by omega)]
theorem leavesF_out {s : Nat → Int32} {l k len p i : Nat} {st : Int32} (h1 : i ≠ 13 + l) (h2 : i ≠ 58 + 10 * p + 1) (h3 : i ≠ 58 + 10 * p + 5) (h4 : i < 22 + 12 * l + k ∨ 22 + 12 * l + (len - 1) ≤ i) : leavesF s l k len p st i = s i := by
  simp only [leavesF, upd_ap]
  rw [if_neg h3, if_neg h2, if_neg h1, shF_out _ h4]
/-- the cells of the head, of lines from k on -/
def Lc (k i : Nat) : Prop := i < 10 ∨ (10 ≤ i ∧ i < 13) ∨ (13 + k ≤ i ∧ i < 16) ∨ (16 + k ≤ i ∧ i < 19) ∨ (19 + k ≤ i ∧ i < 22) ∨ (22 + 12 * k ≤ i ∧ i < 58)
theorem wkF_out {s : Nat → Int32} {l i : Nat} (hl : l < 3) (h : Lc (l + 1) i) (h12 : tn (s (13 + l)) ≤ 12) : wkF s l i = s i := by
  unfold wkF
  have e1 : ∀ j, j ≠ 16 + l → wk1 s l j = s j := fun j hj => by simp only [wk1, upd_ap, if_neg hj]
  unfold Lc at h
  by_cases h0 : 0 < tn (s (13 + l))
  · rw [ic_t h0]
    by_cases h2 : wk1 s l (16 + l) < wk1 s l (10 + l)
    · rw [ic_t h2, e1 i (by omega)]
    · rw [ic_f h2]
      simp only [wk2, upd_ap]
      rw [if_neg (by omega), if_neg (by omega), e1 (13 + l) (by omega), leavesF_out (by omega) (by omega) (by omega) (by omega), e1 i (by omega)]
  · rw [ic_f h0]
theorem workTo_out {s : Nat → Int32} {i : Nat} : ∀ {n : Nat}, n ≤ 3 → Lc n i → (∀ l, l < n → tn (s (13 + l)) ≤ 12) → workTo s n i = s i
  | 0, _, _, _ => rfl
  | n + 1, hn, h, h12 => by
    simp only [workTo]
    have hL : Lc n i := by unfold Lc at h ⊢; omega
    rw [wkF_out (by omega) h ?_, workTo_out (by omega) hL (fun l hl => h12 l (by omega))]
    rw [workTo_out (i := 13 + n) (by omega) (by unfold Lc; omega) (fun l hl => h12 l (by omega))]
    exact h12 n (by omega)
theorem comeFl_le (s : Nat → Int32) (l k : Int32) : comeFl s l k ≤ 3 := by
  unfold comeFl ic
  repeat' split
  all_goals omega
theorem goFl_le (s : Nat → Int32) (p : Int32) : goFl s p ≤ 2 := by
  unfold goFl ic
  repeat' split
  all_goals omega
theorem exchFl_le (s : Nat → Int32) (p q : Int32) : exchFl s p q ≤ 2 := by
  unfold exchFl ic
  repeat' split
  all_goals omega
theorem jumpFl_le (s : Nat → Int32) (p : Int32) : jumpFl s p ≤ 2 := by
  unfold jumpFl ic
  repeat' split
  all_goals omega
theorem mergeFl_le (s : Nat → Int32) (l o : Int32) : mergeFl s l o ≤ 3 := by
  unfold mergeFl ic
  repeat' split
  all_goals omega
theorem ic_iff {P Q : Prop} {a b : Nat} (ha : a ≠ 0) : ic P a b = 0 ↔ ¬ P ∧ b = 0 := by
  by_cases h : P
  · rw [ic_t h]; simp [h, ha]
  · rw [ic_f h]; simp [h]
theorem ic_iff0 {P : Prop} {b : Nat} (hb : b ≠ 0) : ic P 0 b = 0 ↔ P := by
  by_cases h : P
  · rw [ic_t h]; simp [h]
  · rw [ic_f h]; simp [h, hb]
theorem comeFl_0 {s : Nat → Int32} {l k : Int32} : comeFl s l k = 0 ↔ Rg (tn (s 1)) l ∧ Rg 3 k ∧ s 2 ≠ nI 30 ∧ s (13 + tn l) ≠ nI 12 := by
  unfold comeFl
  rw [ic_iff (Q := True) (by decide), ic_iff (Q := True) (by decide), ic_iff (Q := True) (by decide)]
  simp only [Classical.not_not, not_or, and_true, ne_eq]
theorem goFl_0 {s : Nat → Int32} {p : Int32} : goFl s p = 0 ↔ Rg (tn (s 2)) p ∧ s (58 + 10 * tn p + 5) = 0 := by
  unfold goFl
  rw [ic_iff (Q := True) (by decide), ic_iff0 (by decide)]
  simp only [Classical.not_not]
theorem exchFl_0 {s : Nat → Int32} {p q : Int32} : exchFl s p q = 0 ↔ (Rg (tn (s 2)) p ∧ Rg (tn (s 2)) q) ∧ MayX s (tn p) (tn q) := by
  unfold exchFl
  rw [ic_iff (Q := True) (by decide), ic_iff0 (by decide)]
  simp only [Classical.not_not, not_or]
theorem jumpFl_0 {s : Nat → Int32} {p : Int32} : jumpFl s p = 0 ↔ Rg (tn (s 2)) p ∧ MayJ s (tn p) := by
  unfold jumpFl
  rw [ic_iff (Q := True) (by decide), ic_iff0 (by decide)]
  simp only [Classical.not_not]
theorem mergeFl_0 {s : Nat → Int32} {l o : Int32} : mergeFl s l o = 0 ↔ (Rg (tn (s 1)) l ∧ Rg (tn (s 1)) o) ∧ l ≠ o ∧ tn (s (13 + tn l)) + tn (s (13 + tn o)) ≤ 12 := by
  unfold mergeFl
  rw [ic_iff (Q := True) (by decide), ic_iff (Q := True) (by decide), ic_iff0 (by decide)]
  simp only [Classical.not_not, not_or, ne_eq]
def comesS (s : Nat → Int32) (l k : Nat) : Nat → Int32 := comesF s (tn (s 2)) l (tn (s (13 + l))) k
def goesS (s : Nat → Int32) (p : Nat) : Nat → Int32 := leavesF s (liN s p) (plc s p) (tn (s (13 + liN s p))) p (nI 2)
def exchS (s : Nat → Int32) (p q : Nat) : Nat → Int32 := exchF s p q (liN s p) (plc s p) (plc s q) (nI (plc s p - plc s q) * s 8)
def jsteps (s : Nat → Int32) (p : Nat) : Nat := min (plc s p) (tn (s 9))
noncomputable def jumpsS (s : Nat → Int32) (p : Nat) : Nat → Int32 := jumpsF s (22 + 12 * liN s p) (plc s p) p (jsteps s p)
