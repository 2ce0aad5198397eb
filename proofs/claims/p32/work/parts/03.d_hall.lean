/-! A HALL'S STATE, in the numbering of the row of 358: its 43 cells from b on hold c -/
def hallF (c : Nat → Int32) : Nat → Int32 := fun k => if k = 0 then c 1 else if k = 1 then c 2 else if k = 2 then c 0 else if k = 3 then c 3 else if k = 4 then c 4 else if k = 5 then c 5 else 0
def setgF (c : Nat → Int32) : Nat → Int32 := fun k => if k < 4 then c (6 + k) else 0
def lineF (c : Nat → Int32) (l : Nat) : Nat → Int32 := fun k => if k = 0 then c (10 + l) else if k = 1 then c (16 + l) else if k = 2 then c (19 + l) else if k = 3 then c (13 + l) else 0
def rowF (c : Nat → Int32) (l : Nat) : Nat → Int32 := fun k => if k < 12 then c (22 + 12 * l + k) else 0
def persF (c : Nat → Int32) (p : Nat) : Nat → Int32 := fun k => if k = 0 then c (58 + 10 * p) else if k = 1 then c (58 + 10 * p + 1) else if k = 2 then c (58 + 10 * p + 5) else if k = 3 then c (58 + 10 * p + 2) else if k = 4 then c (58 + 10 * p + 3) else if k = 5 then c (58 + 10 * p + 4) else if k = 6 then c (58 + 10 * p + 6) else if k = 7 then c (58 + 10 * p + 7) else if k = 8 then c (58 + 10 * p + 8) else 0
def hs (σ : Nat → Nat → Int32) (b : Nat) (c : Nat → Int32) : Nat → Nat → Int32 := fun n => if n = b then hallF c else if n = b + 1 then setgF c else if b + 7 ≤ n ∧ n < b + 13 then (if (n - (b + 7)) % 2 = 0 then lineF c ((n - (b + 7)) / 2) else rowF c ((n - (b + 7)) / 2)) else if b + 13 ≤ n ∧ n < b + 43 then persF c (n - (b + 13)) else σ n
section HS
variable {σ : Nat → Nat → Int32} {b : Nat} {c : Nat → Int32}
theorem hs_b : hs σ b c b = hallF c := by unfold hs; rw [if_pos rfl]
theorem hs_1 : hs σ b c (b + 1) = setgF c := by unfold hs; rw [if_neg (by omega), if_pos rfl]
theorem hs_l {l : Nat} (h : l < 3) : hs σ b c (b + 7 + 2 * l) = lineF c l := by
  unfold hs
  rw [if_neg (by omega), if_neg (by omega), if_pos (by omega), if_pos (by omega)]
  congr 1; omega
theorem hs_r {l : Nat} (h : l < 3) : hs σ b c (b + 7 + 2 * l + 1) = rowF c l := by
  unfold hs
  rw [if_neg (by omega), if_neg (by omega), if_pos (by omega), if_neg (by omega)]
  congr 1; omega
theorem hs_p {p : Nat} (h : p < 30) : hs σ b c (b + 13 + p) = persF c p := by
  unfold hs
  rw [if_neg (by omega), if_neg (by omega), if_neg (by omega), if_pos (by omega)]
  congr 1; omega
theorem hs_out {n : Nat} (h : n < b ∨ (b + 2 ≤ n ∧ n < b + 7) ∨ b + 43 ≤ n) : hs σ b c n = σ n := by
  unfold hs
  rw [if_neg (by omega), if_neg (by omega), if_neg (by omega), if_neg (by omega)]
/-- where the views of one state and of another are alike -/
theorem hs_put {n0 k0 : Nat} {v : Int32} {i : Nat} (hb : n0 = b → k0 < 6 ∧ ∀ k, hallF (upd c i v) k = upd (hallF c) k0 v k) (hb' : n0 ≠ b → ∀ k, hallF (upd c i v) k = hallF c k)
    (h1 : n0 = b + 1 → ∀ k, setgF (upd c i v) k = upd (setgF c) k0 v k) (h1' : n0 ≠ b + 1 → ∀ k, setgF (upd c i v) k = setgF c k)
    (hl : ∀ l, l < 3 → n0 = b + 7 + 2 * l → ∀ k, lineF (upd c i v) l k = upd (lineF c l) k0 v k) (hl' : ∀ l, l < 3 → n0 ≠ b + 7 + 2 * l → ∀ k, lineF (upd c i v) l k = lineF c l k)
    (hr : ∀ l, l < 3 → n0 = b + 7 + 2 * l + 1 → ∀ k, rowF (upd c i v) l k = upd (rowF c l) k0 v k) (hr' : ∀ l, l < 3 → n0 ≠ b + 7 + 2 * l + 1 → ∀ k, rowF (upd c i v) l k = rowF c l k)
    (hp : ∀ p, p < 30 → n0 = b + 13 + p → ∀ k, persF (upd c i v) p k = upd (persF c p) k0 v k) (hp' : ∀ p, p < 30 → n0 ≠ b + 13 + p → ∀ k, persF (upd c i v) p k = persF c p k)
    (ho : ¬ (n0 < b ∨ (b + 2 ≤ n0 ∧ n0 < b + 7) ∨ b + 43 ≤ n0)) : st2 (hs σ b c) n0 k0 v = hs σ b (upd c i v) := by
  funext n
  unfold st2
  have key : ∀ (m : Nat), m = n0 ∨ m ≠ n0 := fun m => by omega
  by_cases e : n = n0
  · subst e
    rw [va_up_self]
    funext k
    by_cases c1 : n = b
    · have := (hb c1).2 k; rw [c1, hs_b, hs_b, this]
    · by_cases c2 : n = b + 1
      · have := h1 c2 k; rw [c2, hs_1, hs_1, this]
      · by_cases c3 : n < b + 13
        · by_cases c4 : (n - (b + 7)) % 2 = 0
          · obtain ⟨l, hl3, el⟩ : ∃ l, l < 3 ∧ n = b + 7 + 2 * l := ⟨(n - (b + 7)) / 2, by omega, by omega⟩
            have := hl l hl3 el k; rw [el, hs_l hl3, hs_l hl3, this]
          · obtain ⟨l, hl3, el⟩ : ∃ l, l < 3 ∧ n = b + 7 + 2 * l + 1 := ⟨(n - (b + 7)) / 2, by omega, by omega⟩
            have := hr l hl3 el k; rw [el, hs_r hl3, hs_r hl3, this]
        · obtain ⟨p, hp3, ep⟩ : ∃ p, p < 30 ∧ n = b + 13 + p := ⟨n - (b + 13), by omega, by omega⟩
          have := hp p hp3 ep k; rw [ep, hs_p hp3, hs_p hp3, this]
  · rw [va_up_ne _ _ e]
    funext k
    by_cases c0 : n < b ∨ (b + 2 ≤ n ∧ n < b + 7) ∨ b + 43 ≤ n
    · rw [hs_out c0, hs_out c0]
    · by_cases c1 : n = b
      · have := hb' (fun q => e (c1.trans q.symm)) k; rw [c1, hs_b, hs_b, this]
      · by_cases c2 : n = b + 1
        · have := h1' (fun q => e (c2.trans q.symm)) k; rw [c2, hs_1, hs_1, this]
        · by_cases c3 : n < b + 13
          · by_cases c4 : (n - (b + 7)) % 2 = 0
            · obtain ⟨l, hl3, el⟩ : ∃ l, l < 3 ∧ n = b + 7 + 2 * l := ⟨(n - (b + 7)) / 2, by omega, by omega⟩
              have := hl' l hl3 (fun q => e (el.trans q.symm)) k; rw [el, hs_l hl3, hs_l hl3, this]
            · obtain ⟨l, hl3, el⟩ : ∃ l, l < 3 ∧ n = b + 7 + 2 * l + 1 := ⟨(n - (b + 7)) / 2, by omega, by omega⟩
              have := hr' l hl3 (fun q => e (el.trans q.symm)) k; rw [el, hs_r hl3, hs_r hl3, this]
          · obtain ⟨p, hp3, ep⟩ : ∃ p, p < 30 ∧ n = b + 13 + p := ⟨n - (b + 13), by omega, by omega⟩
            have := hp' p hp3 (fun q => e (ep.trans q.symm)) k; rw [ep, hs_p hp3, hs_p hp3, this]
theorem hst_h0 (v : Int32) : st2 (hs σ b c) b 0 v = hs σ b (upd c 1 v) := by
  refine hs_put ?_ ?_ ?_ ?_ ?_ ?_ ?_ ?_ ?_ ?_ (by omega)
  · first | (intro h9; refine ⟨by omega, fun k9 => ?_⟩; simp only [hallF, upd_ap]; grind) | (intro h9; exact absurd h9 (by omega))
  · intro h9 k9; first | omega | (simp only [hallF, upd_ap]; grind)
  · intro h9 k9; first | omega | (simp only [setgF, upd_ap]; grind)
  · intro h9 k9; first | omega | (simp only [setgF, upd_ap]; grind)
  · intro l9 h8 h9 k9; first | omega | (simp only [lineF, upd_ap]; grind)
  · intro l9 h8 h9 k9; first | omega | (simp only [lineF, upd_ap]; grind)
  · intro l9 h8 h9 k9; first | omega | (simp only [rowF, upd_ap]; grind)
  · intro l9 h8 h9 k9; first | omega | (simp only [rowF, upd_ap]; grind)
  · intro p9 h8 h9 k9; first | omega | (simp only [persF, upd_ap]; grind)
  · intro p9 h8 h9 k9; first | omega | (simp only [persF, upd_ap]; grind)
theorem hst_h1 (v : Int32) : st2 (hs σ b c) b 1 v = hs σ b (upd c 2 v) := by
  refine hs_put ?_ ?_ ?_ ?_ ?_ ?_ ?_ ?_ ?_ ?_ (by omega)
  · first | (intro h9; refine ⟨by omega, fun k9 => ?_⟩; simp only [hallF, upd_ap]; grind) | (intro h9; exact absurd h9 (by omega))
  · intro h9 k9; first | omega | (simp only [hallF, upd_ap]; grind)
  · intro h9 k9; first | omega | (simp only [setgF, upd_ap]; grind)
  · intro h9 k9; first | omega | (simp only [setgF, upd_ap]; grind)
  · intro l9 h8 h9 k9; first | omega | (simp only [lineF, upd_ap]; grind)
  · intro l9 h8 h9 k9; first | omega | (simp only [lineF, upd_ap]; grind)
  · intro l9 h8 h9 k9; first | omega | (simp only [rowF, upd_ap]; grind)
  · intro l9 h8 h9 k9; first | omega | (simp only [rowF, upd_ap]; grind)
  · intro p9 h8 h9 k9; first | omega | (simp only [persF, upd_ap]; grind)
  · intro p9 h8 h9 k9; first | omega | (simp only [persF, upd_ap]; grind)
theorem hst_h2 (v : Int32) : st2 (hs σ b c) b 2 v = hs σ b (upd c 0 v) := by
  refine hs_put ?_ ?_ ?_ ?_ ?_ ?_ ?_ ?_ ?_ ?_ (by omega)
  · first | (intro h9; refine ⟨by omega, fun k9 => ?_⟩; simp only [hallF, upd_ap]; grind) | (intro h9; exact absurd h9 (by omega))
  · intro h9 k9; first | omega | (simp only [hallF, upd_ap]; grind)
  · intro h9 k9; first | omega | (simp only [setgF, upd_ap]; grind)
  · intro h9 k9; first | omega | (simp only [setgF, upd_ap]; grind)
  · intro l9 h8 h9 k9; first | omega | (simp only [lineF, upd_ap]; grind)
  · intro l9 h8 h9 k9; first | omega | (simp only [lineF, upd_ap]; grind)
  · intro l9 h8 h9 k9; first | omega | (simp only [rowF, upd_ap]; grind)
  · intro l9 h8 h9 k9; first | omega | (simp only [rowF, upd_ap]; grind)
  · intro p9 h8 h9 k9; first | omega | (simp only [persF, upd_ap]; grind)
  · intro p9 h8 h9 k9; first | omega | (simp only [persF, upd_ap]; grind)
theorem hst_h3 (v : Int32) : st2 (hs σ b c) b 3 v = hs σ b (upd c 3 v) := by
  refine hs_put ?_ ?_ ?_ ?_ ?_ ?_ ?_ ?_ ?_ ?_ (by omega)
  · first | (intro h9; refine ⟨by omega, fun k9 => ?_⟩; simp only [hallF, upd_ap]; grind) | (intro h9; exact absurd h9 (by omega))
  · intro h9 k9; first | omega | (simp only [hallF, upd_ap]; grind)
  · intro h9 k9; first | omega | (simp only [setgF, upd_ap]; grind)
  · intro h9 k9; first | omega | (simp only [setgF, upd_ap]; grind)
  · intro l9 h8 h9 k9; first | omega | (simp only [lineF, upd_ap]; grind)
  · intro l9 h8 h9 k9; first | omega | (simp only [lineF, upd_ap]; grind)
  · intro l9 h8 h9 k9; first | omega | (simp only [rowF, upd_ap]; grind)
  · intro l9 h8 h9 k9; first | omega | (simp only [rowF, upd_ap]; grind)
  · intro p9 h8 h9 k9; first | omega | (simp only [persF, upd_ap]; grind)
  · intro p9 h8 h9 k9; first | omega | (simp only [persF, upd_ap]; grind)
theorem hst_h4 (v : Int32) : st2 (hs σ b c) b 4 v = hs σ b (upd c 4 v) := by
  refine hs_put ?_ ?_ ?_ ?_ ?_ ?_ ?_ ?_ ?_ ?_ (by omega)
  · first | (intro h9; refine ⟨by omega, fun k9 => ?_⟩; simp only [hallF, upd_ap]; grind) | (intro h9; exact absurd h9 (by omega))
  · intro h9 k9; first | omega | (simp only [hallF, upd_ap]; grind)
  · intro h9 k9; first | omega | (simp only [setgF, upd_ap]; grind)
  · intro h9 k9; first | omega | (simp only [setgF, upd_ap]; grind)
  · intro l9 h8 h9 k9; first | omega | (simp only [lineF, upd_ap]; grind)
  · intro l9 h8 h9 k9; first | omega | (simp only [lineF, upd_ap]; grind)
  · intro l9 h8 h9 k9; first | omega | (simp only [rowF, upd_ap]; grind)
  · intro l9 h8 h9 k9; first | omega | (simp only [rowF, upd_ap]; grind)
  · intro p9 h8 h9 k9; first | omega | (simp only [persF, upd_ap]; grind)
  · intro p9 h8 h9 k9; first | omega | (simp only [persF, upd_ap]; grind)
theorem hst_h5 (v : Int32) : st2 (hs σ b c) b 5 v = hs σ b (upd c 5 v) := by
  refine hs_put ?_ ?_ ?_ ?_ ?_ ?_ ?_ ?_ ?_ ?_ (by omega)
  · first | (intro h9; refine ⟨by omega, fun k9 => ?_⟩; simp only [hallF, upd_ap]; grind) | (intro h9; exact absurd h9 (by omega))
  · intro h9 k9; first | omega | (simp only [hallF, upd_ap]; grind)
  · intro h9 k9; first | omega | (simp only [setgF, upd_ap]; grind)
  · intro h9 k9; first | omega | (simp only [setgF, upd_ap]; grind)
  · intro l9 h8 h9 k9; first | omega | (simp only [lineF, upd_ap]; grind)
  · intro l9 h8 h9 k9; first | omega | (simp only [lineF, upd_ap]; grind)
  · intro l9 h8 h9 k9; first | omega | (simp only [rowF, upd_ap]; grind)
  · intro l9 h8 h9 k9; first | omega | (simp only [rowF, upd_ap]; grind)
  · intro p9 h8 h9 k9; first | omega | (simp only [persF, upd_ap]; grind)
  · intro p9 h8 h9 k9; first | omega | (simp only [persF, upd_ap]; grind)
theorem hst_s {k : Nat} (hk : k < 4) (v : Int32) : st2 (hs σ b c) (b + 1) k v = hs σ b (upd c (6 + k) v) := by
  refine hs_put ?_ ?_ ?_ ?_ ?_ ?_ ?_ ?_ ?_ ?_ (by omega)
  · first | (intro h9; refine ⟨by omega, fun k9 => ?_⟩; simp only [hallF, upd_ap]; grind) | (intro h9; exact absurd h9 (by omega))
  · intro h9 k9; first | omega | (simp only [hallF, upd_ap]; grind)
  · intro h9 k9; first | omega | (simp only [setgF, upd_ap]; grind)
  · intro h9 k9; first | omega | (simp only [setgF, upd_ap]; grind)
  · intro l9 h8 h9 k9; first | omega | (simp only [lineF, upd_ap]; grind)
  · intro l9 h8 h9 k9; first | omega | (simp only [lineF, upd_ap]; grind)
  · intro l9 h8 h9 k9; first | omega | (simp only [rowF, upd_ap]; grind)
  · intro l9 h8 h9 k9; first | omega | (simp only [rowF, upd_ap]; grind)
  · intro p9 h8 h9 k9; first | omega | (simp only [persF, upd_ap]; grind)
  · intro p9 h8 h9 k9; first | omega | (simp only [persF, upd_ap]; grind)
theorem hst_l0 {l : Nat} (hl : l < 3) (v : Int32) : st2 (hs σ b c) (b + 7 + 2 * l) 0 v = hs σ b (upd c (10 + l) v) := by
  refine hs_put ?_ ?_ ?_ ?_ ?_ ?_ ?_ ?_ ?_ ?_ (by omega)
  · first | (intro h9; refine ⟨by omega, fun k9 => ?_⟩; simp only [hallF, upd_ap]; grind) | (intro h9; exact absurd h9 (by omega))
  · intro h9 k9; first | omega | (simp only [hallF, upd_ap]; grind)
  · intro h9 k9; first | omega | (simp only [setgF, upd_ap]; grind)
  · intro h9 k9; first | omega | (simp only [setgF, upd_ap]; grind)
  · intro l9 h8 h9 k9; first | omega | (simp only [lineF, upd_ap]; grind)
  · intro l9 h8 h9 k9; first | omega | (simp only [lineF, upd_ap]; grind)
  · intro l9 h8 h9 k9; first | omega | (simp only [rowF, upd_ap]; grind)
  · intro l9 h8 h9 k9; first | omega | (simp only [rowF, upd_ap]; grind)
  · intro p9 h8 h9 k9; first | omega | (simp only [persF, upd_ap]; grind)
  · intro p9 h8 h9 k9; first | omega | (simp only [persF, upd_ap]; grind)
theorem hst_l1 {l : Nat} (hl : l < 3) (v : Int32) : st2 (hs σ b c) (b + 7 + 2 * l) 1 v = hs σ b (upd c (16 + l) v) := by
  refine hs_put ?_ ?_ ?_ ?_ ?_ ?_ ?_ ?_ ?_ ?_ (by omega)
  · first | (intro h9; refine ⟨by omega, fun k9 => ?_⟩; simp only [hallF, upd_ap]; grind) | (intro h9; exact absurd h9 (by omega))
  · intro h9 k9; first | omega | (simp only [hallF, upd_ap]; grind)
  · intro h9 k9; first | omega | (simp only [setgF, upd_ap]; grind)
  · intro h9 k9; first | omega | (simp only [setgF, upd_ap]; grind)
  · intro l9 h8 h9 k9; first | omega | (simp only [lineF, upd_ap]; grind)
  · intro l9 h8 h9 k9; first | omega | (simp only [lineF, upd_ap]; grind)
  · intro l9 h8 h9 k9; first | omega | (simp only [rowF, upd_ap]; grind)
  · intro l9 h8 h9 k9; first | omega | (simp only [rowF, upd_ap]; grind)
  · intro p9 h8 h9 k9; first | omega | (simp only [persF, upd_ap]; grind)
  · intro p9 h8 h9 k9; first | omega | (simp only [persF, upd_ap]; grind)
theorem hst_l2 {l : Nat} (hl : l < 3) (v : Int32) : st2 (hs σ b c) (b + 7 + 2 * l) 2 v = hs σ b (upd c (19 + l) v) := by
  refine hs_put ?_ ?_ ?_ ?_ ?_ ?_ ?_ ?_ ?_ ?_ (by omega)
  · first | (intro h9; refine ⟨by omega, fun k9 => ?_⟩; simp only [hallF, upd_ap]; grind) | (intro h9; exact absurd h9 (by omega))
  · intro h9 k9; first | omega | (simp only [hallF, upd_ap]; grind)
  · intro h9 k9; first | omega | (simp only [setgF, upd_ap]; grind)
  · intro h9 k9; first | omega | (simp only [setgF, upd_ap]; grind)
  · intro l9 h8 h9 k9; first | omega | (simp only [lineF, upd_ap]; grind)
  · intro l9 h8 h9 k9; first | omega | (simp only [lineF, upd_ap]; grind)
  · intro l9 h8 h9 k9; first | omega | (simp only [rowF, upd_ap]; grind)
  · intro l9 h8 h9 k9; first | omega | (simp only [rowF, upd_ap]; grind)
  · intro p9 h8 h9 k9; first | omega | (simp only [persF, upd_ap]; grind)
  · intro p9 h8 h9 k9; first | omega | (simp only [persF, upd_ap]; grind)
theorem hst_l3 {l : Nat} (hl : l < 3) (v : Int32) : st2 (hs σ b c) (b + 7 + 2 * l) 3 v = hs σ b (upd c (13 + l) v) := by
  refine hs_put ?_ ?_ ?_ ?_ ?_ ?_ ?_ ?_ ?_ ?_ (by omega)
  · first | (intro h9; refine ⟨by omega, fun k9 => ?_⟩; simp only [hallF, upd_ap]; grind) | (intro h9; exact absurd h9 (by omega))
  · intro h9 k9; first | omega | (simp only [hallF, upd_ap]; grind)
  · intro h9 k9; first | omega | (simp only [setgF, upd_ap]; grind)
  · intro h9 k9; first | omega | (simp only [setgF, upd_ap]; grind)
  · intro l9 h8 h9 k9; first | omega | (simp only [lineF, upd_ap]; grind)
  · intro l9 h8 h9 k9; first | omega | (simp only [lineF, upd_ap]; grind)
  · intro l9 h8 h9 k9; first | omega | (simp only [rowF, upd_ap]; grind)
  · intro l9 h8 h9 k9; first | omega | (simp only [rowF, upd_ap]; grind)
  · intro p9 h8 h9 k9; first | omega | (simp only [persF, upd_ap]; grind)
  · intro p9 h8 h9 k9; first | omega | (simp only [persF, upd_ap]; grind)
theorem hst_r {l k : Nat} (hl : l < 3) (hk : k < 12) (v : Int32) : st2 (hs σ b c) (b + 7 + 2 * l + 1) k v = hs σ b (upd c (22 + 12 * l + k) v) := by
  refine hs_put ?_ ?_ ?_ ?_ ?_ ?_ ?_ ?_ ?_ ?_ (by omega)
  · first | (intro h9; refine ⟨by omega, fun k9 => ?_⟩; simp only [hallF, upd_ap]; grind) | (intro h9; exact absurd h9 (by omega))
  · intro h9 k9; first | omega | (simp only [hallF, upd_ap]; grind)
  · intro h9 k9; first | omega | (simp only [setgF, upd_ap]; grind)
  · intro h9 k9; first | omega | (simp only [setgF, upd_ap]; grind)
  · intro l9 h8 h9 k9; first | omega | (simp only [lineF, upd_ap]; grind)
  · intro l9 h8 h9 k9; first | omega | (simp only [lineF, upd_ap]; grind)
  · intro l9 h8 h9 k9; first | omega | (simp only [rowF, upd_ap]; grind)
  · intro l9 h8 h9 k9; first | omega | (simp only [rowF, upd_ap]; grind)
  · intro p9 h8 h9 k9; first | omega | (simp only [persF, upd_ap]; grind)
  · intro p9 h8 h9 k9; first | omega | (simp only [persF, upd_ap]; grind)
theorem hst_p0 {p : Nat} (hp : p < 30) (v : Int32) : st2 (hs σ b c) (b + 13 + p) 0 v = hs σ b (upd c (58 + 10 * p) v) := by
  refine hs_put ?_ ?_ ?_ ?_ ?_ ?_ ?_ ?_ ?_ ?_ (by omega)
  · first | (intro h9; refine ⟨by omega, fun k9 => ?_⟩; simp only [hallF, upd_ap]; grind) | (intro h9; exact absurd h9 (by omega))
  · intro h9 k9; first | omega | (simp only [hallF, upd_ap]; grind)
  · intro h9 k9; first | omega | (simp only [setgF, upd_ap]; grind)
  · intro h9 k9; first | omega | (simp only [setgF, upd_ap]; grind)
  · intro l9 h8 h9 k9; first | omega | (simp only [lineF, upd_ap]; grind)
  · intro l9 h8 h9 k9; first | omega | (simp only [lineF, upd_ap]; grind)
  · intro l9 h8 h9 k9; first | omega | (simp only [rowF, upd_ap]; grind)
  · intro l9 h8 h9 k9; first | omega | (simp only [rowF, upd_ap]; grind)
  · intro p9 h8 h9 k9; first | omega | (simp only [persF, upd_ap]; grind)
  · intro p9 h8 h9 k9; first | omega | (simp only [persF, upd_ap]; grind)
theorem hst_p1 {p : Nat} (hp : p < 30) (v : Int32) : st2 (hs σ b c) (b + 13 + p) 1 v = hs σ b (upd c (58 + 10 * p + 1) v) := by
  refine hs_put ?_ ?_ ?_ ?_ ?_ ?_ ?_ ?_ ?_ ?_ (by omega)
  · first | (intro h9; refine ⟨by omega, fun k9 => ?_⟩; simp only [hallF, upd_ap]; grind) | (intro h9; exact absurd h9 (by omega))
  · intro h9 k9; first | omega | (simp only [hallF, upd_ap]; grind)
  · intro h9 k9; first | omega | (simp only [setgF, upd_ap]; grind)
  · intro h9 k9; first | omega | (simp only [setgF, upd_ap]; grind)
  · intro l9 h8 h9 k9; first | omega | (simp only [lineF, upd_ap]; grind)
  · intro l9 h8 h9 k9; first | omega | (simp only [lineF, upd_ap]; grind)
  · intro l9 h8 h9 k9; first | omega | (simp only [rowF, upd_ap]; grind)
  · intro l9 h8 h9 k9; first | omega | (simp only [rowF, upd_ap]; grind)
  · intro p9 h8 h9 k9; first | omega | (simp only [persF, upd_ap]; grind)
  · intro p9 h8 h9 k9; first | omega | (simp only [persF, upd_ap]; grind)
theorem hst_p2 {p : Nat} (hp : p < 30) (v : Int32) : st2 (hs σ b c) (b + 13 + p) 2 v = hs σ b (upd c (58 + 10 * p + 5) v) := by
  refine hs_put ?_ ?_ ?_ ?_ ?_ ?_ ?_ ?_ ?_ ?_ (by omega)
  · first | (intro h9; refine ⟨by omega, fun k9 => ?_⟩; simp only [hallF, upd_ap]; grind) | (intro h9; exact absurd h9 (by omega))
  · intro h9 k9; first | omega | (simp only [hallF, upd_ap]; grind)
  · intro h9 k9; first | omega | (simp only [setgF, upd_ap]; grind)
  · intro h9 k9; first | omega | (simp only [setgF, upd_ap]; grind)
  · intro l9 h8 h9 k9; first | omega | (simp only [lineF, upd_ap]; grind)
  · intro l9 h8 h9 k9; first | omega | (simp only [lineF, upd_ap]; grind)
  · intro l9 h8 h9 k9; first | omega | (simp only [rowF, upd_ap]; grind)
  · intro l9 h8 h9 k9; first | omega | (simp only [rowF, upd_ap]; grind)
  · intro p9 h8 h9 k9; first | omega | (simp only [persF, upd_ap]; grind)
  · intro p9 h8 h9 k9; first | omega | (simp only [persF, upd_ap]; grind)
theorem hst_p3 {p : Nat} (hp : p < 30) (v : Int32) : st2 (hs σ b c) (b + 13 + p) 3 v = hs σ b (upd c (58 + 10 * p + 2) v) := by
  refine hs_put ?_ ?_ ?_ ?_ ?_ ?_ ?_ ?_ ?_ ?_ (by omega)
  · first | (intro h9; refine ⟨by omega, fun k9 => ?_⟩; simp only [hallF, upd_ap]; grind) | (intro h9; exact absurd h9 (by omega))
  · intro h9 k9; first | omega | (simp only [hallF, upd_ap]; grind)
  · intro h9 k9; first | omega | (simp only [setgF, upd_ap]; grind)
  · intro h9 k9; first | omega | (simp only [setgF, upd_ap]; grind)
  · intro l9 h8 h9 k9; first | omega | (simp only [lineF, upd_ap]; grind)
  · intro l9 h8 h9 k9; first | omega | (simp only [lineF, upd_ap]; grind)
  · intro l9 h8 h9 k9; first | omega | (simp only [rowF, upd_ap]; grind)
  · intro l9 h8 h9 k9; first | omega | (simp only [rowF, upd_ap]; grind)
  · intro p9 h8 h9 k9; first | omega | (simp only [persF, upd_ap]; grind)
  · intro p9 h8 h9 k9; first | omega | (simp only [persF, upd_ap]; grind)
theorem hst_p4 {p : Nat} (hp : p < 30) (v : Int32) : st2 (hs σ b c) (b + 13 + p) 4 v = hs σ b (upd c (58 + 10 * p + 3) v) := by
  refine hs_put ?_ ?_ ?_ ?_ ?_ ?_ ?_ ?_ ?_ ?_ (by omega)
  · first | (intro h9; refine ⟨by omega, fun k9 => ?_⟩; simp only [hallF, upd_ap]; grind) | (intro h9; exact absurd h9 (by omega))
  · intro h9 k9; first | omega | (simp only [hallF, upd_ap]; grind)
  · intro h9 k9; first | omega | (simp only [setgF, upd_ap]; grind)
  · intro h9 k9; first | omega | (simp only [setgF, upd_ap]; grind)
  · intro l9 h8 h9 k9; first | omega | (simp only [lineF, upd_ap]; grind)
  · intro l9 h8 h9 k9; first | omega | (simp only [lineF, upd_ap]; grind)
  · intro l9 h8 h9 k9; first | omega | (simp only [rowF, upd_ap]; grind)
  · intro l9 h8 h9 k9; first | omega | (simp only [rowF, upd_ap]; grind)
  · intro p9 h8 h9 k9; first | omega | (simp only [persF, upd_ap]; grind)
  · intro p9 h8 h9 k9; first | omega | (simp only [persF, upd_ap]; grind)
theorem hst_p5 {p : Nat} (hp : p < 30) (v : Int32) : st2 (hs σ b c) (b + 13 + p) 5 v = hs σ b (upd c (58 + 10 * p + 4) v) := by
  refine hs_put ?_ ?_ ?_ ?_ ?_ ?_ ?_ ?_ ?_ ?_ (by omega)
  · first | (intro h9; refine ⟨by omega, fun k9 => ?_⟩; simp only [hallF, upd_ap]; grind) | (intro h9; exact absurd h9 (by omega))
  · intro h9 k9; first | omega | (simp only [hallF, upd_ap]; grind)
  · intro h9 k9; first | omega | (simp only [setgF, upd_ap]; grind)
  · intro h9 k9; first | omega | (simp only [setgF, upd_ap]; grind)
  · intro l9 h8 h9 k9; first | omega | (simp only [lineF, upd_ap]; grind)
  · intro l9 h8 h9 k9; first | omega | (simp only [lineF, upd_ap]; grind)
  · intro l9 h8 h9 k9; first | omega | (simp only [rowF, upd_ap]; grind)
  · intro l9 h8 h9 k9; first | omega | (simp only [rowF, upd_ap]; grind)
  · intro p9 h8 h9 k9; first | omega | (simp only [persF, upd_ap]; grind)
  · intro p9 h8 h9 k9; first | omega | (simp only [persF, upd_ap]; grind)
theorem hst_p6 {p : Nat} (hp : p < 30) (v : Int32) : st2 (hs σ b c) (b + 13 + p) 6 v = hs σ b (upd c (58 + 10 * p + 6) v) := by
  refine hs_put ?_ ?_ ?_ ?_ ?_ ?_ ?_ ?_ ?_ ?_ (by omega)
  · first | (intro h9; refine ⟨by omega, fun k9 => ?_⟩; simp only [hallF, upd_ap]; grind) | (intro h9; exact absurd h9 (by omega))
  · intro h9 k9; first | omega | (simp only [hallF, upd_ap]; grind)
  · intro h9 k9; first | omega | (simp only [setgF, upd_ap]; grind)
  · intro h9 k9; first | omega | (simp only [setgF, upd_ap]; grind)
  · intro l9 h8 h9 k9; first | omega | (simp only [lineF, upd_ap]; grind)
  · intro l9 h8 h9 k9; first | omega | (simp only [lineF, upd_ap]; grind)
  · intro l9 h8 h9 k9; first | omega | (simp only [rowF, upd_ap]; grind)
  · intro l9 h8 h9 k9; first | omega | (simp only [rowF, upd_ap]; grind)
  · intro p9 h8 h9 k9; first | omega | (simp only [persF, upd_ap]; grind)
  · intro p9 h8 h9 k9; first | omega | (simp only [persF, upd_ap]; grind)
theorem hst_p7 {p : Nat} (hp : p < 30) (v : Int32) : st2 (hs σ b c) (b + 13 + p) 7 v = hs σ b (upd c (58 + 10 * p + 7) v) := by
  refine hs_put ?_ ?_ ?_ ?_ ?_ ?_ ?_ ?_ ?_ ?_ (by omega)
  · first | (intro h9; refine ⟨by omega, fun k9 => ?_⟩; simp only [hallF, upd_ap]; grind) | (intro h9; exact absurd h9 (by omega))
  · intro h9 k9; first | omega | (simp only [hallF, upd_ap]; grind)
  · intro h9 k9; first | omega | (simp only [setgF, upd_ap]; grind)
  · intro h9 k9; first | omega | (simp only [setgF, upd_ap]; grind)
  · intro l9 h8 h9 k9; first | omega | (simp only [lineF, upd_ap]; grind)
  · intro l9 h8 h9 k9; first | omega | (simp only [lineF, upd_ap]; grind)
  · intro l9 h8 h9 k9; first | omega | (simp only [rowF, upd_ap]; grind)
  · intro l9 h8 h9 k9; first | omega | (simp only [rowF, upd_ap]; grind)
  · intro p9 h8 h9 k9; first | omega | (simp only [persF, upd_ap]; grind)
  · intro p9 h8 h9 k9; first | omega | (simp only [persF, upd_ap]; grind)
theorem hst_p8 {p : Nat} (hp : p < 30) (v : Int32) : st2 (hs σ b c) (b + 13 + p) 8 v = hs σ b (upd c (58 + 10 * p + 8) v) := by
  refine hs_put ?_ ?_ ?_ ?_ ?_ ?_ ?_ ?_ ?_ ?_ (by omega)
  · first | (intro h9; refine ⟨by omega, fun k9 => ?_⟩; simp only [hallF, upd_ap]; grind) | (intro h9; exact absurd h9 (by omega))
  · intro h9 k9; first | omega | (simp only [hallF, upd_ap]; grind)
  · intro h9 k9; first | omega | (simp only [setgF, upd_ap]; grind)
  · intro h9 k9; first | omega | (simp only [setgF, upd_ap]; grind)
  · intro l9 h8 h9 k9; first | omega | (simp only [lineF, upd_ap]; grind)
  · intro l9 h8 h9 k9; first | omega | (simp only [lineF, upd_ap]; grind)
  · intro l9 h8 h9 k9; first | omega | (simp only [rowF, upd_ap]; grind)
  · intro l9 h8 h9 k9; first | omega | (simp only [rowF, upd_ap]; grind)
  · intro p9 h8 h9 k9; first | omega | (simp only [persF, upd_ap]; grind)
  · intro p9 h8 h9 k9; first | omega | (simp only [persF, upd_ap]; grind)
theorem hF0 (c : Nat → Int32) : hallF c 0 = c 1 := rfl
theorem hF1 (c : Nat → Int32) : hallF c 1 = c 2 := rfl
theorem hF2 (c : Nat → Int32) : hallF c 2 = c 0 := rfl
theorem hF3 (c : Nat → Int32) : hallF c 3 = c 3 := rfl
theorem hF4 (c : Nat → Int32) : hallF c 4 = c 4 := rfl
theorem hF5 (c : Nat → Int32) : hallF c 5 = c 5 := rfl
theorem lF0 (c : Nat → Int32) (l : Nat) : lineF c l 0 = c (10 + l) := rfl
theorem lF1 (c : Nat → Int32) (l : Nat) : lineF c l 1 = c (16 + l) := rfl
theorem lF2 (c : Nat → Int32) (l : Nat) : lineF c l 2 = c (19 + l) := rfl
theorem lF3 (c : Nat → Int32) (l : Nat) : lineF c l 3 = c (13 + l) := rfl
theorem pF0 (c : Nat → Int32) (p : Nat) : persF c p 0 = c (58 + 10 * p) := rfl
theorem pF1 (c : Nat → Int32) (p : Nat) : persF c p 1 = c (58 + 10 * p + 1) := rfl
theorem pF2 (c : Nat → Int32) (p : Nat) : persF c p 2 = c (58 + 10 * p + 5) := rfl
theorem pF3 (c : Nat → Int32) (p : Nat) : persF c p 3 = c (58 + 10 * p + 2) := rfl
theorem pF4 (c : Nat → Int32) (p : Nat) : persF c p 4 = c (58 + 10 * p + 3) := rfl
theorem pF5 (c : Nat → Int32) (p : Nat) : persF c p 5 = c (58 + 10 * p + 4) := rfl
theorem pF6 (c : Nat → Int32) (p : Nat) : persF c p 6 = c (58 + 10 * p + 6) := rfl
theorem pF7 (c : Nat → Int32) (p : Nat) : persF c p 7 = c (58 + 10 * p + 7) := rfl
theorem pF8 (c : Nat → Int32) (p : Nat) : persF c p 8 = c (58 + 10 * p + 8) := rfl
end HS
