/-! THE STATE AS NUMBERS (the reference's own row of 358), and what each step does to it -/
abbrev tn (x : Int32) : Nat := x.toNatClampNeg
/-- one of the numbers below n -/
def Rg (n : Nat) (x : Int32) : Prop := ∃ j : Nat, j < n ∧ x = nI j
theorem Rg_iff {n : Nat} (hn : n < 2 ^ 31) (x : Int32) : (nI 0 ≤ x ∧ x ≤ nI n - nI 1) ↔ Rg n x := by
  constructor
  · rintro ⟨h1, h2⟩
    have h0 : ¬ x < 0 := by rw [nI_z] at h1; exact Int32.not_lt.mpr h1
    obtain ⟨j, hj, rfl⟩ := nI_of h0
    refine ⟨j, ?_, rfl⟩
    rcases Nat.eq_zero_or_pos n with rfl | hp
    · exfalso
      have e : nI 0 - nI 1 = -1 := by decide +kernel
      rw [e] at h2
      have h3 : (nI j).toInt ≤ (-1 : Int32).toInt := Int32.le_iff_toInt_le.mp h2
      rw [nI_toInt hj] at h3
      have e2 : (-1 : Int32).toInt = -1 := by decide +kernel
      omega
    · rw [pk_sub (by omega)] at h2
      have := (nI_leI hj (by omega)).mp h2
      omega
  · rintro ⟨j, hj, rfl⟩
    refine ⟨(nI_leI (by decide) (by omega)).mpr (Nat.zero_le _), ?_⟩
    rw [pk_sub (by omega)]
    exact (nI_leI (by omega) (by omega)).mpr (by omega)
theorem Rg_lt {n : Nat} (hn : n < 2 ^ 31) (x : Int32) : (0 ≤ x ∧ x < nI n) ↔ Rg n x := by
  constructor
  · rintro ⟨h1, h2⟩
    have h0 : ¬ x < 0 := Int32.not_lt.mpr h1
    obtain ⟨j, hj, rfl⟩ := nI_of h0
    exact ⟨j, (nI_ltI hj hn).mp h2, rfl⟩
  · rintro ⟨j, hj, rfl⟩
    exact ⟨nI_pos' (by omega), (nI_ltI (by omega) hn).mpr hj⟩
theorem Rg_le {n : Nat} (hn : n < 2 ^ 31) (x : Int32) : (nI 0 ≤ x ∧ x ≤ nI n) ↔ Rg (n + 1) x := by
  constructor
  · rintro ⟨h1, h2⟩
    have h0 : ¬ x < 0 := by rw [nI_z] at h1; exact Int32.not_lt.mpr h1
    obtain ⟨j, hj, rfl⟩ := nI_of h0
    have := (nI_leI hj hn).mp h2
    exact ⟨j, by omega, rfl⟩
  · rintro ⟨j, hj, rfl⟩
    exact ⟨(nI_leI (by decide) (by omega)).mpr (Nat.zero_le _), (nI_leI (by omega) hn).mpr (by omega)⟩
theorem Rg_nI {n j : Nat} (hj : j < 2 ^ 31) (hn : n < 2 ^ 31) : Rg n (nI j) ↔ j < n := by
  constructor
  · rintro ⟨i, hi, h⟩
    have := (nI_eq hj (by omega)).mp h
    omega
  · exact fun h => ⟨j, h, rfl⟩
noncomputable def ic {α : Type} (P : Prop) (a b : α) : α := @ite α P (Classical.propDecidable P) a b
theorem ic_t {α : Type} {P : Prop} {a b : α} (h : P) : ic P a b = a := by unfold ic; exact if_pos h
theorem ic_f {α : Type} {P : Prop} {a b : α} (h : ¬ P) : ic P a b = b := by unfold ic; exact if_neg h
/-- the last place that holds p, of the first n -/
def mplG (f : Nat → Int32) (p : Int32) : Nat → Int32 | 0 => -1 | n + 1 => if f n = p then nI n else mplG f p n
def zeroF (s : Nat → Int32) (a n : Nat) : Nat → Int32 := fun i => if a ≤ i ∧ i < a + n then 0 else s i
theorem zeroF_0 (s : Nat → Int32) (a : Nat) : zeroF s a 0 = s := by funext i; unfold zeroF; rw [if_neg (by omega)]
theorem zeroF_s (s : Nat → Int32) (a n : Nat) : upd (zeroF s a n) (a + n) 0 = zeroF s a (n + 1) := by
  funext i; simp only [upd_ap, zeroF]
  by_cases h : i = a + n
  · rw [if_pos h, if_pos (by omega)]
  · rw [if_neg h]; by_cases h2 : a ≤ i ∧ i < a + n
    · rw [if_pos h2, if_pos (by omega)]
    · rw [if_neg h2, if_neg (by omega)]
/-- the places from a + k on, to below a + j, take what stands one place on -/
def shF (s : Nat → Int32) (a k j : Nat) : Nat → Int32 := fun i => if a + k ≤ i ∧ i < a + j then s (i + 1) else s i
theorem shF_0 (s : Nat → Int32) (a k : Nat) : shF s a k k = s := by funext i; unfold shF; rw [if_neg (by omega)]
theorem shF_s (s : Nat → Int32) (a k j : Nat) (h : k ≤ j) : upd (shF s a k j) (a + j) (shF s a k j (a + j + 1)) = shF s a k (j + 1) := by
  funext i; simp only [upd_ap, shF]
  by_cases h1 : i = a + j
  · subst h1; rw [if_pos rfl, if_neg (by omega), if_pos (by omega)]
  · rw [if_neg h1]; by_cases h2 : a + k ≤ i ∧ i < a + j
    · rw [if_pos h2, if_pos (by omega)]
    · rw [if_neg h2, if_neg (by omega)]
theorem shF_out (s : Nat → Int32) {a k j i : Nat} (h : i < a + k ∨ a + j ≤ i) : shF s a k j i = s i := by unfold shF; rw [if_neg (by omega)]
/-- one comes: person p, to the end (len) of the line l -/
def comesF (s : Nat → Int32) (p l len k : Nat) : Nat → Int32 :=
  upd (upd (upd (upd (upd (upd (upd (zeroF s (58 + 10 * p) 10) (58 + 10 * p + 0) (nI k)) (58 + 10 * p + 1) (nI l)) (58 + 10 * p + 6) (s 0)) (58 + 10 * p + 8) (-9)) (22 + 12 * l + len) (nI p)) (13 + l) (nI (len + 1))) 2 (nI (p + 1))
/-- person p leaves the place k of the line l, which had len -/
def leavesF (s : Nat → Int32) (l k len p : Nat) (st : Int32) : Nat → Int32 :=
  upd (upd (upd (shF s (22 + 12 * l) k (len - 1)) (13 + l) (nI (len - 1))) (58 + 10 * p + 1) (-1)) (58 + 10 * p + 5) st
/-- p, at the place i of the line l, and q, at the place j ahead of it, change places for the pay -/
def exchF (s : Nat → Int32) (p q l i j : Nat) (pay : Int32) : Nat → Int32 :=
  let s1 := upd (upd s (22 + 12 * l + i) (nI q)) (22 + 12 * l + j) (nI p)
  let s2 := upd s1 (58 + 10 * p + 3) (s1 (58 + 10 * p + 3) - pay)
  let s3 := upd s2 (58 + 10 * q + 3) (s2 (58 + 10 * q + 3) + pay)
  let s4 := upd s3 (58 + 10 * p + 7) (s3 (58 + 10 * p + 7) - nI (i - j))
  let s5 := upd s4 (58 + 10 * q + 7) (s4 (58 + 10 * q + 7) + nI (i - j))
  upd s5 3 (s5 3 + nI 1)
def beginF : Nat → Int32 := upd (upd (upd (upd (fun _ => 0) 6 (nI 30)) 7 (nI 5)) 8 (nI 2)) 9 (nI 2)
/-- n cells, from a of f on, stand at d of g -/
def cpF (f g : Nat → Int32) (a d n : Nat) : Nat → Int32 := fun i => if d ≤ i ∧ i < d + n then f (a + (i - d)) else g i
theorem cpF_0 (f g : Nat → Int32) (a d : Nat) : cpF f g a d 0 = g := by funext i; unfold cpF; rw [if_neg (by omega)]
theorem cpF_s (f g : Nat → Int32) (a d n : Nat) : upd (cpF f g a d n) (d + n) (f (a + n)) = cpF f g a d (n + 1) := by
  funext i; simp only [upd_ap, cpF]
  by_cases h : i = d + n
  · subst h; rw [if_pos rfl, if_pos (by omega)]; congr 1; omega
  · rw [if_neg h]; by_cases h2 : d ≤ i ∧ i < d + n
    · rw [if_pos h2, if_pos (by omega)]
    · rw [if_neg h2, if_neg (by omega)]
theorem cpF_out (f g : Nat → Int32) {a d n i : Nat} (h : i < d ∨ d + n ≤ i) : cpF f g a d n i = g i := by unfold cpF; rw [if_neg (by omega)]
theorem cpF_in (f g : Nat → Int32) {a d n i : Nat} (h : d ≤ i) (h2 : i < d + n) : cpF f g a d n i = f (a + (i - d)) := by unfold cpF; rw [if_pos ⟨h, h2⟩]
