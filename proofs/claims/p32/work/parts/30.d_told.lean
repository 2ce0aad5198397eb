/-! WHAT IS FORETOLD; who stands where; the best partner; when one may jump and exchange -/
theorem nI_ofInt (j : Nat) : nI j = Int32.ofInt (j : Int) := (Int32.ofInt_eq_ofNat).symm
section EXD
variable {B : Int} {x : Int32} {T : Nat} {c : Nat → Int32}
theorem Inv.fate {p : Nat} : ∀ {w T : Nat} {s : Nat → Int32}, Inv T s → T + w ≤ 1000000 → p < tn (s 2) → s (58 + 10 * p + 5) = 0 → waitN s p = w → goByS s w (58 + 10 * p + 5) = nI 1
  | 0, T, s, h, _, hp, hs, hw => by have := (h.wait1 hp hs).1; omega
  | w + 1, T, s, h, hT, hp, hs, hw => by
    rw [goBy_sh]
    rcases h.min_wait (by omega) hp hs with ⟨a1, a2⟩ | ⟨a1, a2, a3⟩
    · have hw0 : w = 0 := by omega
      rw [hw0]
      exact a2
    · have m2 : minuteS s 2 = s 2 := h.min_h (by omega) (by omega) (by omega) (by omega)
      exact Inv.fate (p := p) (w := w) (h.minute (by omega)) (by omega) (by rw [m2]; exact hp) a2 (by omega)
def cellO (s : Nat → Int32) (p l k : Nat) : Nat := if s (22 + 12 * l + k) = nI p then 1 else 0
theorem Inv.one_sum {s : Nat → Int32} (h : Inv T s) {p : Nat} (hp : p < tn (s 2)) : ic (s (58 + 10 * p + 5) = 0) 1 0 = sumN (fun l => sumN (cellO s p l) (tn (s (13 + l)))) (tn (s 1)) := by
  have hp30 := Nat.lt_of_lt_of_le hp h.np30
  by_cases c : s (58 + 10 * p + 5) = 0
  · obtain ⟨h1, h2, h3, h4, -⟩ := h.plcs hp c
    rw [ic_t c, sumN_1 (a := liN s p) h1 (fun l hl hne => sumN_0 (fun k hk => by
      unfold cellO
      rw [if_neg (fun e => hne (h.at hl hk e hp30).2.2.1.symm)])),
      sumN_1 (a := plc s p) h3 (fun k hk hne => by
      unfold cellO
      rw [if_neg (fun e => hne (h.at h1 hk e hp30).2.2.2.symm)])]
    unfold cellO
    rw [if_pos h4]
  · rw [ic_f c, sumN_0 (fun l hl => sumN_0 (fun k hk => by
      unfold cellO
      rw [if_neg (fun e => c (h.at hl hk e hp30).2.1)]))]
theorem sumN_c1 : ∀ n, sumN (fun _ => 1) n = n
  | 0 => rfl
  | n + 1 => by simp only [sumN]; rw [sumN_c1 n]
theorem stand_sumN (s : Nat → Int32) : ∀ n, standN s (nI 0) n = sumN (fun p => ic (s (58 + 10 * p + 5) = 0) 1 0) n
  | 0 => rfl
  | n + 1 => by simp only [standN, sumN]; rw [stand_sumN s n, nI_z]
/-- how many stand: as many as the lines are long -/
theorem Inv.stand_len {s : Nat → Int32} (h : Inv T s) : standN s (nI 0) (tn (s 2)) = sumN (fun l => tn (s (13 + l))) (tn (s 1)) := by
  rw [stand_sumN, sumN_congr (fun p hp => h.one_sum hp), sumN_swap (f := fun p l => sumN (cellO s p l) (tn (s (13 + l))))]
  refine sumN_congr (fun l hl => ?_)
  rw [sumN_swap (f := fun p k => cellO s p l k)]
  refine Eq.trans (sumN_congr (g := fun _ => 1) (fun k hk => ?_)) (sumN_c1 _)
  have hr := h.row hl hk
  have hr2 := h.rowP hl hk
  have hr3 := h.np30
  rw [sumN_1 (a := tn (s (22 + 12 * l + k))) hr2 (fun p hp hne => by
    unfold cellO
    rw [if_neg (fun e => hne (by rw [e]; exact (tn_nI (by omega)).symm))])]
  unfold cellO
  rw [if_pos hr]
/-- everyone stands, is served or gone -/
theorem fates_sum {s : Nat → Int32} : ∀ {n : Nat}, (∀ p, p < n → s (58 + 10 * p + 5) = 0 ∨ s (58 + 10 * p + 5) = nI 1 ∨ s (58 + 10 * p + 5) = nI 2) → standN s (nI 0) n + standN s (nI 1) n + standN s (nI 2) n = n
  | 0, _ => rfl
  | n + 1, h => by
    have ih := fates_sum (n := n) (fun p hp => h p (by omega))
    have n01 : ¬ nI 0 = nI 1 := by decide +kernel
    have n02 : ¬ nI 0 = nI 2 := by decide +kernel
    have n12 : ¬ nI 1 = nI 2 := by decide +kernel
    simp only [standN]
    rcases h n (by omega) with q | q | q
    · rw [← nI_z] at q
      rw [q, ic_t rfl, ic_f n01, ic_f n02]; omega
    · rw [q, ic_f (fun z => n01 z.symm), ic_t rfl, ic_f n12]; omega
    · rw [q, ic_f (fun z => n02 z.symm), ic_f (fun z => n12 z.symm), ic_t rfl]; omega
/-- the best of the first n: none may be had, or one that is the greatest, the lowest of those -/
theorem part_best {p : Nat} : ∀ {n : Nat}, n ≤ 30 → ((∀ k, k < n → ¬ exchFl c (nI p) (nI k) = 0) ∧ (partB c p n).1 = -1) ∨ ∃ j, j < n ∧ partB c p n = (nI j, gainI c p j) ∧ exchFl c (nI p) (nI j) = 0 ∧ ∀ k, k < n → exchFl c (nI p) (nI k) = 0 → gainI c p k ≤ gainI c p j ∧ (gainI c p k = gainI c p j → j ≤ k)
  | 0, _ => Or.inl ⟨fun k hk => absurd hk (Nat.not_lt_zero k), rfl⟩
  | n + 1, hn => by
    have e : partB c p (n + 1) = partStep c p n (partB c p n) := rfl
    rw [e]
    unfold partStep
    by_cases hx : exchFl c (nI p) (nI n) = 0
    · rw [ic_t hx]
      rcases part_best (p := p) (n := n) (by omega) with ⟨a1, a2⟩ | ⟨j, b1, b2, b3, b4⟩
      · rw [ic_t (Or.inl a2)]
        refine Or.inr ⟨n, by omega, rfl, hx, fun k hk hk0 => ?_⟩
        by_cases z : k = n
        · rw [z]; exact ⟨Int32.le_refl _, fun _ => Nat.le_refl _⟩
        · exact absurd hk0 (a1 k (by omega))
      · rw [b2]
        have hm1 : ¬ nI j = -1 := nI_m1 (by omega)
        by_cases g : gainI c p j < gainI c p n
        · rw [ic_t (Or.inr g)]
          refine Or.inr ⟨n, by omega, rfl, hx, fun k hk hk0 => ?_⟩
          by_cases z : k = n
          · rw [z]; exact ⟨Int32.le_refl _, fun _ => Nat.le_refl _⟩
          · have := (b4 k (by omega) hk0).1
            refine ⟨Int32.le_trans this (Int32.le_of_lt g), fun q => ?_⟩
            rw [q] at this
            exact absurd g (Int32.not_lt.mpr this)
        · rw [ic_f (fun z => z.elim hm1 g)]
          refine Or.inr ⟨j, by omega, rfl, b3, fun k hk hk0 => ?_⟩
          by_cases z : k = n
          · rw [z]; exact ⟨Int32.not_lt.mp g, fun _ => by omega⟩
          · exact b4 k (by omega) hk0
    · rw [ic_f hx]
      rcases part_best (p := p) (n := n) (by omega) with ⟨a1, a2⟩ | ⟨j, b1, b2, b3, b4⟩
      · refine Or.inl ⟨fun k hk => ?_, a2⟩
        by_cases z : k = n
        · rw [z]; exact hx
        · exact a1 k (by omega)
      · refine Or.inr ⟨j, by omega, b2, b3, fun k hk hk0 => ?_⟩
        by_cases z : k = n
        · rw [z] at hk0; exact absurd hk0 hx
        · exact b4 k (by omega) hk0
/-- what the law keeps of jumps: 0 for one who never jumped, else the minute and one -/
def Jl (c f : Nat → Int32) : Prop := ∀ p, p < 30 → (p < tn (c 2) → (f p = nI 0 ∧ ∃ j, j ≤ tn (c 0) ∧ c (58 + 10 * p + 8) = nI j - nI 5) ∨ ∃ j, j ≤ tn (c 0) ∧ f p = nI (j + 1) ∧ c (58 + 10 * p + 8) = nI j) ∧ (tn (c 2) ≤ p → f p = nI 0)
theorem Jl.same {f t : Nat → Int32} (h : Jl c f) (e2 : t 2 = c 2) (e0 : tn (c 0) ≤ tn (t 0)) (e8 : ∀ p, t (58 + 10 * p + 8) = c (58 + 10 * p + 8)) : Jl t f := fun p hp => by
  rw [e2]
  refine ⟨fun q => ?_, (h p hp).2⟩
  rw [e8]
  rcases (h p hp).1 q with ⟨a, j, b, d⟩ | ⟨j, b, a, d⟩
  · exact Or.inl ⟨a, j, by omega, d⟩
  · exact Or.inr ⟨j, by omega, a, d⟩
theorem Jl.cong {f g : Nat → Int32} (h : Jl c f) (e : ∀ k, k < 30 → g k = f k) : Jl c g := fun p hp => by
  rw [e p hp]; exact h p hp
theorem Jl.comes {f : Nat → Int32} {l k0 : Nat} (h : Jl c f) (hI : Inv T c) (hl : l < tn (c 1)) (hp2 : tn (c 2) < 30) (hlen : tn (c (13 + l)) < 12) : Jl (comesC c l k0) f := fun p hp => by
  have hnl3 := hI.nl3
  have f2 : tn (comesC c l k0 2) = tn (c 2) + 1 := by rw [comesC_lo (by omega), if_neg (by omega), if_neg (by omega), if_pos rfl]; exact tn_nI (by omega)
  have f0 : comesC c l k0 0 = c 0 := by rw [comesC_lo (by omega), if_neg (by omega), if_neg (by omega), if_neg (by omega)]
  rw [f2, f0]
  refine ⟨fun q => ?_, fun q => (h p hp).2 (by omega)⟩
  by_cases z : p = tn (c 2)
  · refine Or.inl ⟨(h p hp).2 (by omega), tn (c 0), Nat.le_refl _, ?_⟩
    rw [z, comesC_p (by omega) (by omega), if_pos rfl]
    have e0 := hI.now
    generalize tn (c 0) = w at e0 ⊢
    rw [e0]
  · rw [comesC_q (by omega) (by omega) z]
    exact (h p hp).1 (by omega)
theorem Jl.jumps {f t : Nat → Int32} {p : Nat} (h : Jl c f) (hI : Inv T c) (e0 : t 0 = c 0) (e2 : t 2 = c 2) (e8 : ∀ r, t (58 + 10 * r + 8) = if r = p then c 0 else c (58 + 10 * r + 8)) (hp : p < tn (c 2)) : Jl t (upd f p (c 0 + nI 1)) := fun r hr => by
  rw [e0, e2, e8, upd_ap]
  by_cases z : r = p
  · rw [if_pos z, if_pos z]
    refine ⟨fun _ => Or.inr ⟨tn (c 0), Nat.le_refl _, ?_, hI.now⟩, fun q => by omega⟩
    have e0 := hI.now
    generalize tn (c 0) = w at e0 ⊢
    rw [e0, nI_add]
  · rw [if_neg z, if_neg z]; exact h r hr
theorem Jl.may {f : Nat → Int32} {p : Nat} (h : Jl c f) (hI : Inv T c) (hp : p < tn (c 2)) (hs9 : c (58 + 10 * p + 5) = 0) (hk : ¬ c (58 + 10 * p) ≤ 0) (hpl : 0 < plc c p) (hf : f p = 0 ∨ ¬ c 0 + nI 1 - f p < nI 5) : MayC c p := by
  have hp30 := Nat.lt_of_lt_of_le hp hI.np30
  have hn := hI.nowT
  have hT := hI.T6
  refine ⟨hs9, fun z => hk (by rw [z]; exact Int32.le_refl _), hpl, ?_⟩
  have e0 := hI.now
  rcases (h p hp30).1 hp with ⟨a, j, b, d⟩ | ⟨j, b, a, d⟩
  · rw [d]
    generalize tn (c 0) = w at e0 b hn
    rw [e0]
    have e : nI w - (nI j - nI 5) = nI (w - j + 5) := by
      have e1 := nI_add (w - j) j
      rw [show w - j + j = w by omega] at e1
      rw [← e1, ← nI_add]; grind
    rw [e]
    exact (nI_leI (by omega) (by omega)).mpr (by omega)
  · rw [d]
    rw [a] at hf
    generalize tn (c 0) = w at e0 b hn
    rw [e0] at hf ⊢
    rcases hf with q | q
    · exact absurd q (nI_ne0 (by omega) (by omega))
    · have e : nI w + nI 1 - nI (j + 1) = nI w - nI j := by rw [nI_succ j, nI_o]; grind
      rw [e] at q
      exact Int32.not_lt.mp q
theorem MayX.of {p q : Nat} (h : Ex B x c) (hI : Inv T c) (hB : B ≤ 100000000) (hp : p < tn (c 2)) (hq : q < tn (c 2)) (hsp : c (58 + 10 * p + 5) = 0) (hsq : c (58 + 10 * q + 5) = 0) (hl : c (58 + 10 * p + 1) = c (58 + 10 * q + 1)) (ha : ¬ nI (plc c p) - nI (plc c q) ≤ 0) (hm : ¬ c (58 + 10 * p + 3) + c (58 + 10 * p + 2) < (nI (plc c p) - nI (plc c q)) * c 8) : MayX c p q := by
  obtain ⟨a1, -, a3, -, -⟩ := hI.plcs hp hsp
  obtain ⟨b1, -, b3, -, -⟩ := hI.plcs hq hsq
  have a12 := hI.len12 a1
  have b12 := hI.len12 b1
  have h9 := hI.price9
  have hlt : plc c q < plc c p := by
    have et := pk_sub_toInt (a := plc c p) (b := plc c q) (by omega) (by omega)
    have : ¬ (nI (plc c p) - nI (plc c q)).toInt ≤ 0 := fun z => ha (Int32.le_iff_toInt_le.mpr (by rw [Int32.toInt_zero]; exact z))
    omega
  refine ⟨hsp, hsq, hl, hlt, ?_⟩
  rw [pk_sub (by omega)] at hm
  have hst := hI.stoodT hp
  have hno := hI.nowT
  have hT := hI.T6
  obtain ⟨z, z1, z2, z3⟩ := h.2.2.2.2 p hp
  have e2 := hI.stood hp
  have e8 := hI.price
  generalize tn (c (58 + 10 * p + 2)) = st at e2 hst
  generalize tn (c 8) = pr at e8 h9
  rw [z3, e2, e8, pk_mul] at hm
  rw [z3, e2, e8, pk_mul]
  have hb : (plc c p - plc c q) * pr ≤ 11 * 9 := Nat.mul_le_mul (by omega) h9
  generalize (plc c p - plc c q) * pr = pay at hb hm ⊢
  rw [nI_ofInt, nI_ofInt] at hm
  rw [nI_ofInt, nI_ofInt]
  rw [← Int32.ofInt_add] at hm
  rw [← Int32.ofInt_sub, ← Int32.ofInt_add]
  have hm2 := Int32.le_iff_toInt_le.mp (Int32.not_lt.mp hm)
  rw [Int32.toInt_ofInt_of_le (by omega) (by omega), Int32.toInt_ofInt_of_le (by omega) (by omega)] at hm2
  refine Int32.le_iff_toInt_le.mpr ?_
  rw [Int32.toInt_zero, Int32.toInt_ofInt_of_le (by omega) (by omega)]
  omega
/-- after an exchange the one who paid has what that may be -/
theorem Inv.ex_after {p q : Nat} (hI : Inv T c) (hp : p < tn (c 2)) (hq : q < tn (c 2)) (hm : MayX c p q) : p < tn (exchS c p q 2) ∧ exchS c p q (58 + 10 * p + 5) = 0 ∧ ¬ exchS c p q (58 + 10 * p + 3) + exchS c p q (58 + 10 * p + 2) < 0 := by
  obtain ⟨hne, hl, hl3, hi12, hji, -, -⟩ := hI.exL hp hq hm
  have k3 : exchS c p q (58 + 10 * p + 3) = c (58 + 10 * p + 3) - nI (plc c p - plc c q) * c 8 := by
    unfold exchS; rw [exchF_3 (by omega) (by omega) hne, if_neg hne, if_pos rfl]
  have k2 : exchS c p q (58 + 10 * p + 2) = c (58 + 10 * p + 2) := exchF_p (by omega) (by omega) (by omega) (by omega) (by omega)
  have k5 : exchS c p q (58 + 10 * p + 5) = c (58 + 10 * p + 5) := exchF_p (by omega) (by omega) (by omega) (by omega) (by omega)
  have f2 : exchS c p q 2 = c 2 := by unfold exchS; rw [exchF_row _ (by omega) (by omega), if_neg (by omega), if_neg (by omega)]
  rw [f2, k5, k3, k2]
  exact ⟨hp, hm.1, Int32.not_lt.mpr hm.2.2.2.2⟩
end EXD
