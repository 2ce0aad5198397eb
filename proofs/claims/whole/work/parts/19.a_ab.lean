/-! THE TWO OBJECTS AND ONE ABSTRACT STATE: the row, how many states are remembered and which, the slots, the text -/
abbrev AB := (Nat → Int32) × Nat × (Nat → Nat → Int32) × (Nat → Nat → Int32) × (Nat → Prop) × (Nat → Int32) × Nat
def pushH (h : Nat → Nat → Int32) (m : Nat) (s : Nat → Int32) : Nat → Nat → Int32 := if m < 14 then va_up h m s else fun i => if i = 13 then s else h (i + 1)
def HXo (σ : Nat → Nat → Int32) (og m : Nat) (h : Nat → Nat → Int32) : Prop := (σ 87 1 = nI og ∧ og < 14) ∧ (σ 87 2 = nI m ∧ m ≤ 14) ∧ (∀ i, i < m → ∃ d, HoldsAt σ (87 + 2 + 43 * ((og + i) % 14)) d ∧ Rel d (h i)) ∧ ∀ i, i < 14 → ∃ d, HoldsAt σ (87 + 2 + 43 * i) d
def HX (σ : Nat → Nat → Int32) (m : Nat) (h : Nat → Nat → Int32) : Prop := ∃ og, HXo σ og m h
def SX (σ : Nat → Nat → Int32) (sl : Nat → Nat → Int32) (fl : Nat → Prop) : Prop := ∀ j, j < 2 → σ 778 j = bi (fl j) ∧ ∃ d, HoldsAt σ (692 + 43 * j) d ∧ (fl j → Rel d (sl j))
def TXo (σ : Nat → Nat → Int32) (t : Nat → Int32) (lz : Nat) : Prop := σ 780 = t ∧ σ 779 1 = nI lz
def ClX (σ : Nat → Nat → Int32) (c : Nat → Int32) (a : AB) : Prop := HoldsAt σ 1 c ∧ Rel c a.1 ∧ (∃ d, HoldsAt σ 44 d) ∧ HX σ a.2.1 a.2.2.1 ∧ SX σ a.2.2.2.1 a.2.2.2.2.1 ∧ TXo σ a.2.2.2.2.2.1 a.2.2.2.2.2.2
def Cl (σ : Nat → Nat → Int32) (a : AB) : Prop := ∃ c, ClX σ c a
def Mo (σ : Nat → Nat → Int32) (a : AB) : Prop := (σ 781 3 = nI 0 ∧ σ 781 5 = nI a.2.1 ∧ σ 781 9 = nI a.2.2.2.2.2.2) ∧ σ 782 = a.1 ∧ (∀ i, i < a.2.1 → ∀ k, k < 358 → σ 784 (358 * i + k) = a.2.2.1 i k) ∧ (∀ j, j < 2 → σ 786 j = bi (a.2.2.2.2.1 j) ∧ (a.2.2.2.2.1 j → ∀ k, k < 358 → σ 785 (358 * j + k) = a.2.2.2.1 j k)) ∧ ∀ k, k < a.2.2.2.2.2.2 → σ 787 k = (a.2.2.2.2.2.1 k).toInt8.toInt32
def G1 (T : Nat) (s : Nat → Int32) : Prop := Inv T s ∧ Zl s ∧ 1 ≤ tn (s 1)
def Go (T : Nat) (a : AB) : Prop := G1 T a.1 ∧ (∀ i, i < a.2.1 → G1 T (a.2.2.1 i)) ∧ (∀ j, j < 2 → a.2.2.2.2.1 j → G1 T (a.2.2.2.1 j)) ∧ a.2.1 ≤ 14 ∧ a.2.2.2.2.2.2 ≤ 100 ∧ ∀ k, k < a.2.2.2.2.2.2 → Rg 256 (a.2.2.2.2.2.1 k)
theorem G1.mono {T U : Nat} {s : Nat → Int32} (h : G1 T s) (h1 : T ≤ U) (h2 : U ≤ 1000000) : G1 U s := ⟨h.1.mono h1 h2, h.2⟩
theorem Go.mono {T U : Nat} {a : AB} (h : Go T a) (h1 : T ≤ U) (h2 : U ≤ 1000000) : Go U a := ⟨h.1.mono h1 h2, fun i hi => (h.2.1 i hi).mono h1 h2, fun j hj hf => (h.2.2.1 j hj hf).mono h1 h2, h.2.2.2⟩
section HOLD
variable {σ τ : Nat → Nat → Int32} {b o : Nat} {c d : Nat → Int32}
theorem HoldsAt.cong (h : HoldsAt σ b d) (e : ∀ n, b ≤ n → n < b + 43 → τ n = σ n) : HoldsAt τ b d := by
  funext n
  by_cases ho : n < b ∨ (b + 2 ≤ n ∧ n < b + 7) ∨ b + 43 ≤ n
  · exact hs_out ho
  · rw [hs_cell ho (τ := σ)]
    exact (congrFun h n).trans (e n (by omega) (by omega)).symm
theorem HoldsAt.self : HoldsAt (hs σ b c) b c := hs_idem
theorem hs_far {n : Nat} (h : n < b ∨ b + 43 ≤ n) : hs σ b c n = σ n := hs_out (by omega)
end HOLD
section ABS
variable {σ τ : Nat → Nat → Int32} {c d s : Nat → Int32} {og m lz : Nat} {h sl : Nat → Nat → Int32} {fl : Nat → Prop} {t : Nat → Int32} {a : AB} {T : Nat}
theorem HXo.cong (hH : HXo σ og m h) (e : ∀ n, 87 ≤ n → n < 691 → τ n = σ n) : HXo τ og m h := by
  refine ⟨⟨by rw [e 87 (by omega) (by omega)]; exact hH.1.1, hH.1.2⟩, ⟨by rw [e 87 (by omega) (by omega)]; exact hH.2.1.1, hH.2.1.2⟩, fun i hi => ?_, fun i hi => ?_⟩
  · obtain ⟨d, h1, h2⟩ := hH.2.2.1 i hi
    exact ⟨d, h1.cong (fun n g1 g2 => e n (by omega) (by omega)), h2⟩
  · obtain ⟨d, h1⟩ := hH.2.2.2 i hi
    exact ⟨d, h1.cong (fun n g1 g2 => e n (by omega) (by omega))⟩
theorem SX.cong (hs9 : SX σ sl fl) (e : ∀ n, 692 ≤ n → n < 779 → τ n = σ n) : SX τ sl fl := fun j hj => by
  obtain ⟨h1, d, h2, h3⟩ := hs9 j hj
  exact ⟨by rw [e 778 (by omega) (by omega)]; exact h1, d, h2.cong (fun n g1 g2 => e n (by omega) (by omega)), h3⟩
theorem Cl.cong (hC : Cl σ a) (e : ∀ n, n < 781 → τ n = σ n) : Cl τ a := by
  obtain ⟨c, h1, h2, ⟨d, h3⟩, ⟨og, h4⟩, h5, h6, h7⟩ := hC
  exact ⟨c, h1.cong (fun n _ g => e n (by omega)), h2, ⟨d, h3.cong (fun n _ g => e n (by omega))⟩, ⟨og, h4.cong (fun n _ g => e n (by omega))⟩, h5.cong (fun n _ g => e n (by omega)), by rw [e 780 (by omega)]; exact h6, by rw [e 779 (by omega)]; exact h7⟩
theorem Mo.cong (hM : Mo σ a) (e : ∀ n, 781 ≤ n → n < 788 → τ n = σ n) : Mo τ a := by
  unfold Mo
  rw [e 781 (by omega) (by omega), e 782 (by omega) (by omega), e 784 (by omega) (by omega), e 785 (by omega) (by omega), e 786 (by omega) (by omega), e 787 (by omega) (by omega)]
  exact hM
theorem HXo.ok (hH : HXo σ og m h) : HistOk σ og m := ⟨hH.1, hH.2.1, hH.2.2.2⟩
theorem puH_out {r n : Nat} (h1 : n ≠ 87) (h2 : ¬ (87 + 2 + 43 * ((og + r) % 14) ≤ n ∧ n < 87 + 2 + 43 * ((og + r) % 14) + 43)) : puH σ c og r n = σ n := by
  unfold puH
  by_cases q : r < 14
  · rw [if_pos q, st2_row _ h1, hs_out (by omega)]
  · rw [if_neg q, st2_row _ h1, hs_out (by omega)]
theorem puH_at {r : Nat} : HoldsAt (puH σ c og r) (87 + 2 + 43 * ((og + r) % 14)) c := by
  have key : HoldsAt (hs σ (87 + 2 + 43 * ((og + r) % 14)) c) (87 + 2 + 43 * ((og + r) % 14)) c := HoldsAt.self
  refine key.cong (fun n g1 g2 => ?_)
  unfold puH
  by_cases q : r < 14
  · rw [if_pos q, st2_row _ (by omega)]
  · rw [if_neg q, st2_row _ (by omega)]
theorem HXo.push (hH : HXo σ og m h) (r : Rel c s) : HX (puH σ c og m) (min (m + 1) 14) (pushH h m s) := by
  obtain ⟨⟨a1, a2⟩, ⟨b1, b2⟩, c1, d1⟩ := hH
  by_cases q : m < 14
  · refine ⟨og, ⟨?_, a2⟩, ⟨?_, by omega⟩, fun i hi => ?_, fun i hi => ?_⟩
    · unfold puH; rw [if_pos q, st2_eq, if_neg (by omega), hs_out (by omega)]; exact a1
    · unfold puH; rw [if_pos q, st2_eq, if_pos ⟨rfl, rfl⟩]; congr 1; omega
    · by_cases e : i = m
      · rw [e]
        refine ⟨c, puH_at, ?_⟩
        unfold pushH; rw [if_pos q, va_up_self]; exact r
      · obtain ⟨d, h1, h2⟩ := c1 i (by omega)
        refine ⟨d, h1.cong (fun n g1 g2 => puH_out (by omega) (by omega)), ?_⟩
        unfold pushH; rw [if_pos q, va_up_ne _ _ e]; exact h2
    · by_cases e : i = (og + m) % 14
      · rw [e]; exact ⟨c, puH_at⟩
      · obtain ⟨d, h1⟩ := d1 i hi
        exact ⟨d, h1.cong (fun n g1 g2 => puH_out (by omega) (by omega))⟩
  · have e14 : m = 14 := by omega
    subst e14
    refine ⟨(og + 1) % 14, ⟨?_, by omega⟩, ⟨?_, by omega⟩, fun i hi => ?_, fun i hi => ?_⟩
    · unfold puH; rw [if_neg q, st2_eq, if_pos ⟨rfl, rfl⟩]
    · unfold puH; rw [if_neg q, st2_eq, if_neg (by omega), hs_out (by omega)]; exact b1
    · by_cases e : i = 13
      · have e2 : ((og + 1) % 14 + i) % 14 = (og + 14) % 14 := by omega
        rw [e2]
        refine ⟨c, puH_at, ?_⟩
        unfold pushH; rw [if_neg q, if_pos e]; exact r
      · have e2 : ((og + 1) % 14 + i) % 14 = (og + (i + 1)) % 14 := by omega
        rw [e2]
        obtain ⟨d, h1, h2⟩ := c1 (i + 1) (by omega)
        refine ⟨d, h1.cong (fun n g1 g2 => puH_out (by omega) (by omega)), ?_⟩
        unfold pushH; rw [if_neg q, if_neg e]; exact h2
    · by_cases e : i = (og + 14) % 14
      · rw [e]; exact ⟨c, puH_at⟩
      · obtain ⟨d, h1⟩ := d1 i hi
        exact ⟨d, h1.cong (fun n g1 g2 => puH_out (by omega) (by omega))⟩
/-- an action of the class -/
theorem Cl.act {c' s' : Nat → Int32} (hC : ClX σ c (s, m, h, sl, fl, t, lz)) (hH : HXo σ og m h) (r : Rel c' s') : Cl (hs (puH σ c og m) 1 c') (s', min (m + 1) 14, pushH h m s, sl, fl, t, lz) := by
  obtain ⟨h1, h2, ⟨d, h3⟩, -, h5, h6, h7⟩ := hC
  have out : ∀ n, 44 ≤ n → (n < 87 ∨ 691 ≤ n) → hs (puH σ c og m) 1 c' n = σ n := fun n g1 g2 => by
    rw [hs_far (by omega), puH_out (by omega) (by omega)]
  obtain ⟨og', h4⟩ := hH.push h2
  exact ⟨c', HoldsAt.self, r, ⟨d, h3.cong (fun n g1 g2 => out n g1 (by omega))⟩, ⟨og', h4.cong (fun n g1 g2 => hs_far (by omega))⟩, h5.cong (fun n g1 g2 => out n (by omega) (by omega)), by rw [out 780 (by omega) (by omega)]; exact h6, by rw [out 779 (by omega) (by omega)]; exact h7⟩
/-- a call of the class on the trial hall -/
theorem Cl.trial {d' : Nat → Int32} (hC : ClX σ c a) : Cl (hs (hs σ 44 d') 1 c) a := by
  obtain ⟨h1, h2, ⟨d, h3⟩, ⟨og, h4⟩, h5, h6, h7⟩ := hC
  have out : ∀ n, 87 ≤ n → hs (hs σ 44 d') 1 c n = σ n := fun n g1 => by rw [hs_far (by omega), hs_far (by omega)]
  refine ⟨c, HoldsAt.self, h2, ⟨d', ?_⟩, ⟨og, h4.cong (fun n g1 g2 => out n g1)⟩, h5.cong (fun n g1 g2 => out n (by omega)), by rw [out 780 (by omega)]; exact h6, by rw [out 779 (by omega)]; exact h7⟩
  have key : HoldsAt (hs σ 44 d') 44 d' := HoldsAt.self
  exact key.cong (fun n g1 g2 => hs_far (by omega))
theorem Cl.undo {rg : Nat} (hC : ClX σ c (s, rg + 1, h, sl, fl, t, lz)) (hH : HXo σ og (rg + 1) h) (r : Rel d (h rg)) : Cl (hs (st2 σ 87 2 (nI rg)) 1 d) (h rg, rg, h, sl, fl, t, lz) := by
  obtain ⟨h1, h2, ⟨d2, h3⟩, -, h5, h6, h7⟩ := hC
  have out : ∀ n, 44 ≤ n → n ≠ 87 → hs (st2 σ 87 2 (nI rg)) 1 d n = σ n := fun n g1 g2 => by rw [hs_far (by omega), st2_row _ g2]
  have e87 : hs (st2 σ 87 2 (nI rg)) 1 d 87 = st2 σ 87 2 (nI rg) 87 := hs_far (by omega)
  refine ⟨d, HoldsAt.self, r, ⟨d2, h3.cong (fun n g1 g2 => out n g1 (by omega))⟩, ⟨og, ⟨?_, hH.1.2⟩, ⟨?_, by have := hH.2.1.2; show rg ≤ 14; omega⟩, fun i hi => ?_, fun i hi => ?_⟩, h5.cong (fun n g1 g2 => out n (by omega) (by omega)), by rw [out 780 (by omega) (by omega)]; exact h6, by rw [out 779 (by omega) (by omega)]; exact h7⟩
  · rw [e87, st2_eq, if_neg (by omega)]; exact hH.1.1
  · rw [e87, st2_eq, if_pos ⟨rfl, rfl⟩]
  · have hi' : i < rg := hi
    obtain ⟨d3, g1, g2⟩ := hH.2.2.1 i (by omega)
    exact ⟨d3, g1.cong (fun n k1 k2 => out n (by omega) (by omega)), g2⟩
  · obtain ⟨d3, g1⟩ := hH.2.2.2 i hi
    exact ⟨d3, g1.cong (fun n k1 k2 => out n (by omega) (by omega))⟩
theorem HXo.none {x y : Int32} (hH : HXo σ og m h) (e1 : τ 87 1 = nI 0) (e2 : τ 87 2 = nI 0) (e : ∀ n, 88 ≤ n → n < 691 → τ n = σ n) : HX τ 0 h := by
  refine ⟨0, ⟨e1, by omega⟩, ⟨e2, by omega⟩, fun i hi => by omega, fun i hi => ?_⟩
  obtain ⟨d3, g1⟩ := hH.2.2.2 i hi
  exact ⟨d3, g1.cong (fun n k1 k2 => e n (by omega) (by omega))⟩
theorem Cl.save {kz : Nat} (hC : ClX σ c (s, m, h, sl, fl, t, lz)) (hz : kz < 2) : Cl (hs (st2 (hs σ (692 + 43 * kz) c) 778 kz (nI 1)) 1 c) (s, m, h, va_up sl kz s, (fun j => j = kz ∨ fl j), t, lz) := by
  obtain ⟨h1, h2, ⟨d, h3⟩, ⟨og, h4⟩, h5, h6, h7⟩ := hC
  have out : ∀ n, 44 ≤ n → n ≠ 778 → ¬ (692 + 43 * kz ≤ n ∧ n < 692 + 43 * kz + 43) → hs (st2 (hs σ (692 + 43 * kz) c) 778 kz (nI 1)) 1 c n = σ n := fun n g1 g2 g3 => by rw [hs_far (by omega), st2_row _ g2, hs_far (by omega)]
  refine ⟨c, HoldsAt.self, h2, ⟨d, h3.cong (fun n g1 g2 => out n g1 (by omega) (by omega))⟩, ⟨og, h4.cong (fun n g1 g2 => out n (by omega) (by omega) (by omega))⟩, fun j hj => ?_, by rw [out 780 (by omega) (by omega) (by omega)]; exact h6, by rw [out 779 (by omega) (by omega) (by omega)]; exact h7⟩
  obtain ⟨k1, d9, k2, k3⟩ := h5 j hj
  have e778 : hs (st2 (hs σ (692 + 43 * kz) c) 778 kz (nI 1)) 1 c 778 j = if j = kz then nI 1 else σ 778 j := by
    rw [hs_far (by omega), st2_eq]
    by_cases q : j = kz
    · rw [if_pos ⟨rfl, q⟩, if_pos q]
    · rw [if_neg (fun z => q z.2), if_neg q, hs_far (by omega)]
  by_cases q : j = kz
  · refine ⟨by rw [e778, if_pos q]; exact bi_nt (Or.inl q), c, ?_, fun _ => ?_⟩
    · rw [q]
      have key : HoldsAt (hs σ (692 + 43 * kz) c) (692 + 43 * kz) c := HoldsAt.self
      exact key.cong (fun n g1 g2 => by rw [hs_far (by omega), st2_row _ (by omega)])
    · show Rel c (va_up sl kz s j); rw [q, va_up_self]; exact h2
  · refine ⟨by rw [e778, if_neg q, k1]; exact congrArg bi (propext ⟨fun z => Or.inr z, fun z => z.resolve_left q⟩), d9, k2.cong (fun n g1 g2 => out n (by omega) (by omega) (by omega)), fun z => ?_⟩
    show Rel d9 (va_up sl kz s j); rw [va_up_ne _ _ q]; exact k3 (z.resolve_left q)
theorem Cl.restore {kz : Nat} (hC : ClX σ c (s, m, h, sl, fl, t, lz)) (r : Rel d (sl kz)) : Cl (hs (st2 (st2 σ 87 1 (nI 0)) 87 2 (nI 0)) 1 d) (sl kz, 0, h, sl, fl, t, lz) := by
  obtain ⟨h1, h2, ⟨d2, h3⟩, ⟨og, h4⟩, h5, h6, h7⟩ := hC
  have out : ∀ n, 44 ≤ n → n ≠ 87 → hs (st2 (st2 σ 87 1 (nI 0)) 87 2 (nI 0)) 1 d n = σ n := fun n g1 g2 => by rw [hs_far (by omega), st2_row _ g2, st2_row _ g2]
  have e87 : hs (st2 (st2 σ 87 1 (nI 0)) 87 2 (nI 0)) 1 d 87 = st2 (st2 σ 87 1 (nI 0)) 87 2 (nI 0) 87 := hs_far (by omega)
  exact ⟨d, HoldsAt.self, r, ⟨d2, h3.cong (fun n g1 g2 => out n g1 (by omega))⟩, h4.none (x := 0) (y := 0) (by rw [e87, st2_eq, if_neg (by omega), st2_eq, if_pos ⟨rfl, rfl⟩]) (by rw [e87, st2_eq, if_pos ⟨rfl, rfl⟩]) (fun n g1 g2 => out n (by omega) (by omega)), h5.cong (fun n g1 g2 => out n (by omega) (by omega)), by rw [out 780 (by omega) (by omega)]; exact h6, by rw [out 779 (by omega) (by omega)]; exact h7⟩
theorem Cl.load {x : Nat} {c' s' : Nat → Int32} (hC : ClX σ c (s, m, h, sl, fl, t, lz)) (r : Rel c' s') : Cl (hs (ldG σ x) 1 c') (s', 0, h, sl, (fun _ => False), t, lz) := by
  obtain ⟨h1, h2, ⟨d2, h3⟩, ⟨og, h4⟩, h5, h6, h7⟩ := hC
  have out : ∀ n, 44 ≤ n → n ≠ 779 → n ≠ 87 → n ≠ 778 → hs (ldG σ x) 1 c' n = σ n := fun n g1 g2 g3 g4 => by rw [hs_far (by omega), ldG_row σ x g2 g3 g4]
  have ef : ∀ n, 44 ≤ n → hs (ldG σ x) 1 c' n = ldG σ x n := fun n g => hs_far (by omega)
  refine ⟨c', HoldsAt.self, r, ⟨d2, h3.cong (fun n g1 g2 => out n g1 (by omega) (by omega) (by omega))⟩, h4.none (x := 0) (y := 0) ?_ ?_ (fun n g1 g2 => out n (by omega) (by omega) (by omega) (by omega)), fun j hj => ?_, by rw [out 780 (by omega) (by omega) (by omega) (by omega)]; exact h6, ?_⟩
  · rw [ef 87 (by omega)]; unfold ldG; simp only [st2_eq]; simp
  · rw [ef 87 (by omega)]; unfold ldG; simp only [st2_eq]; simp
  · obtain ⟨k1, d9, k2, k3⟩ := h5 j hj
    refine ⟨?_, d9, k2.cong (fun n g1 g2 => out n (by omega) (by omega) (by omega) (by omega)), fun z => z.elim⟩
    rw [ef 778 (by omega)]
    unfold ldG
    rcases (show j = 0 ∨ j = 1 by omega) with rfl | rfl
    · simp only [st2_eq]; simp; exact bi_nf (fun z => z)
    · simp only [st2_eq]; simp; exact bi_nf (fun z => z)
  · rw [ef 779 (by omega)]; unfold ldG; simp only [st2_eq]; simp; exact h7
/-- a change of the text alone -/
theorem Cl.text {t' : Nat → Int32} {lz' : Nat} (hC : ClX σ c (s, m, h, sl, fl, t, lz)) (e : ∀ n, n < 779 → τ n = σ n) (e1 : τ 780 = t') (e2 : τ 779 1 = nI lz') : Cl (hs τ 1 c) (s, m, h, sl, fl, t', lz') := by
  obtain ⟨h1, h2, ⟨d2, h3⟩, ⟨og, h4⟩, h5, h6, h7⟩ := hC
  have out : ∀ n, 44 ≤ n → n < 779 → hs τ 1 c n = σ n := fun n g1 g2 => by rw [hs_far (by omega), e n g2]
  exact ⟨c, HoldsAt.self, h2, ⟨d2, h3.cong (fun n g1 g2 => out n g1 (by omega))⟩, ⟨og, h4.cong (fun n g1 g2 => out n (by omega) (by omega))⟩, h5.cong (fun n g1 g2 => out n (by omega) (by omega)), by rw [hs_far (by omega)]; exact e1, by rw [hs_far (by omega)]; exact e2⟩
end ABS
