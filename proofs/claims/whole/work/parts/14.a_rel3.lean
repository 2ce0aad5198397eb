/-! THE TWO STATES UNDER COMMANDS, TURNS, SCRIPTS AND SIMULATIONS -/
section REL3
variable {c s : Nat → Int32} {T : Nat}
theorem go_iff (h : Inv T s) {p : Nat} (hp : p < 2 ^ 31) : goFl s (nI p) = 0 ↔ p < tn (s 2) ∧ s (58 + 10 * p + 5) = 0 := by
  refine ⟨go_ok h hp, fun q => goFl_0.mpr ?_⟩
  have := h.np30
  rw [tn_nI hp]
  exact ⟨(Rg_nI hp (by omega)).mpr q.1, q.2⟩
theorem exchN_iff (h : Inv T s) {p q : Nat} (hp : p < 2 ^ 31) (hq : q < 2 ^ 31) : exchFl s (nI p) (nI q) = 0 ↔ p < tn (s 2) ∧ q < tn (s 2) ∧ MayX s p q := by
  refine ⟨exch_ok h hp hq, fun z => exchFl_0.mpr ?_⟩
  have := h.np30
  rw [tn_nI hp, tn_nI hq]
  exact ⟨⟨(Rg_nI hp (by omega)).mpr z.1, (Rg_nI hq (by omega)).mpr z.2.1⟩, z.2.2⟩
theorem jump_iff (h : Inv T s) {p : Nat} (hp : p < 2 ^ 31) : jumpFl s (nI p) = 0 ↔ p < tn (s 2) ∧ MayJ s p := by
  refine ⟨jump_ok h hp, fun q => jumpFl_0.mpr ?_⟩
  have := h.np30
  rw [tn_nI hp]
  exact ⟨(Rg_nI hp (by omega)).mpr q.1, q.2⟩
theorem Rel.goI (r : Rel c s) (h : Inv T s) {p : Nat} (hp : p < 2 ^ 31) : (p < tn (c 2) ∧ c (58 + 10 * p + 5) = 0) ↔ goFl s (nI p) = 0 := by
  rw [go_iff h hp, r.h (by omega : 2 < 10)]
  exact ⟨fun z => ⟨z.1, (r.P z.1 (j := 5) (by omega)).symm.trans z.2⟩, fun z => ⟨z.1, (r.P z.1 (j := 5) (by omega)).trans z.2⟩⟩
theorem Rel.exchI (r : Rel c s) (h : Inv T s) {p q : Nat} (hp : p < 2 ^ 31) (hq : q < 2 ^ 31) : (p < tn (c 2) ∧ q < tn (c 2) ∧ MayX c p q) ↔ exchFl s (nI p) (nI q) = 0 := by
  rw [exchN_iff h hp hq, r.h (by omega : 2 < 10)]
  exact ⟨fun z => ⟨z.1, z.2.1, (r.mayX h z.1 z.2.1).mp z.2.2⟩, fun z => ⟨z.1, z.2.1, (r.mayX h z.1 z.2.1).mpr z.2.2⟩⟩
theorem Rel.jumpI (r : Rel c s) (h : Inv T s) {p : Nat} (hp : p < 2 ^ 31) : (p < tn (c 2) ∧ MayC c p) ↔ jumpFl s (nI p) = 0 := by
  rw [jump_iff h hp, r.h (by omega : 2 < 10)]
  exact ⟨fun z => ⟨z.1, (r.mayJ h z.1).mp z.2⟩, fun z => ⟨z.1, (r.mayJ h z.1).mpr z.2⟩⟩
theorem Rel.succI (r : Rel c s) (h : Inv T s) {g : Nat} (hg : g < 100000) : succPC c g ↔ succP s g := by
  have h30 := h.np30
  have h10 : g / 10000 < 10 := by omega
  obtain ⟨m, hm⟩ : ∃ m, g / 10000 = m := ⟨_, rfl⟩
  unfold succPC succP
  rw [hm]
  have hcs : m = 0 ∨ m = 1 ∨ m = 2 ∨ m = 3 ∨ m = 4 ∨ m = 5 ∨ m = 6 ∨ m = 7 ∨ m = 8 ∨ m = 9 := by omega
  rcases hcs with rfl | rfl | rfl | rfl | rfl | rfl | rfl | rfl | rfl | rfl
  · show False ↔ False
    exact Iff.rfl
  · show (g % 100 = 0 ∧ comeFl c (nI (g / 1000 % 10)) (nI (g / 100 % 10)) = 0) ↔ (g % 100 = 0 ∧ comeFl s (nI (g / 1000 % 10)) (nI (g / 100 % 10)) = 0)
    rw [r.come h]
  · show (g / 100 % 100 = 0 ∧ (g % 100 < tn (c 2) ∧ c (58 + 10 * (g % 100) + 5) = 0)) ↔ (g / 100 % 100 = 0 ∧ goFl s (nI (g % 100)) = 0)
    exact and_congr Iff.rfl (r.goI h (by omega))
  · show (g / 100 % 100 < tn (c 2) ∧ g % 100 < tn (c 2) ∧ MayX c (g / 100 % 100) (g % 100)) ↔ exchFl s (nI (g / 100 % 100)) (nI (g % 100)) = 0
    exact r.exchI h (by omega) (by omega)
  · show (g / 100 % 100 = 0 ∧ (g % 100 < tn (c 2) ∧ MayC c (g % 100))) ↔ (g / 100 % 100 = 0 ∧ jumpFl s (nI (g % 100)) = 0)
    exact and_congr Iff.rfl (r.jumpI h (by omega))
  · show (g % 100 = 0 ∧ mergeFl c (nI (g / 1000 % 10)) (nI (g / 100 % 10)) = 0) ↔ (g % 100 = 0 ∧ mergeFl s (nI (g / 1000 % 10)) (nI (g / 100 % 10)) = 0)
    rw [r.mergeE h]
  · show (g / 100 % 100 = 0 ∧ 1 ≤ g % 100 ∧ g % 100 ≤ 60) ↔ (g / 100 % 100 = 0 ∧ 1 ≤ g % 100 ∧ g % 100 ≤ 60)
    exact Iff.rfl
  · show (g / 100 % 100 = 0 ∧ Rg (tn (c 2)) (nI (g % 100)) ∧ c (58 + 10 * (g % 100) + 5) = nI 1) ↔ (g / 100 % 100 = 0 ∧ Rg (tn (s 2)) (nI (g % 100)) ∧ s (58 + 10 * (g % 100) + 5) = nI 1)
    rw [r.h (by omega : 2 < 10), Rg_nI (by omega) (by omega)]
    exact ⟨fun z => ⟨z.1, z.2.1, (r.P z.2.1 (j := 5) (by omega)).symm.trans z.2.2⟩, fun z => ⟨z.1, z.2.1, (r.P z.2.1 (j := 5) (by omega)).trans z.2.2⟩⟩
  · show ((g / 100 % 100 < tn (c 2) ∧ c (58 + 10 * (g / 100 % 100) + 5) = 0) ∧ plc c (g / 100 % 100) = g % 100) ↔ (Rg (tn (s 2)) (nI (g / 100 % 100)) ∧ s (58 + 10 * (g / 100 % 100) + 5) = 0 ∧ plc s (g / 100 % 100) = g % 100)
    rw [r.h (by omega : 2 < 10), Rg_nI (by omega) (by omega)]
    constructor
    · intro z
      have b9 := (r.P z.1.1 (j := 5) (by omega)).symm.trans z.1.2
      exact ⟨z.1.1, b9, (r.plcE h z.1.1 b9).symm.trans z.2⟩
    · intro z
      exact ⟨⟨z.1, (r.P z.1 (j := 5) (by omega)).trans z.2.1⟩, (r.plcE h z.1 z.2.1).trans z.2.2⟩
  · show (g / 1000 % 10 = 0 ∧ c 5 ≤ nI (g % 1000)) ↔ (g / 1000 % 10 = 0 ∧ s 5 ≤ nI (g % 1000))
    rw [r.h (by omega : 5 < 10)]
theorem Rel.succK (r : Rel c s) (h : Inv T s) {g : Nat} (hg : g < 100000) (hT : T + 60 ≤ 1000000) : Rel (succC c g) (succS s g) := by
  have hi9 := r.succI h hg
  unfold succC succS
  by_cases q : succP s g
  · rw [ic_t q, ic_t (hi9.mpr q)]
    have h10 : g / 10000 < 10 := by omega
    obtain ⟨m, hm⟩ : ∃ m, g / 10000 = m := ⟨_, rfl⟩
    unfold succP at q
    unfold succXC succX
    rw [hm] at q ⊢
    have hcs : m = 0 ∨ m = 1 ∨ m = 2 ∨ m = 3 ∨ m = 4 ∨ m = 5 ∨ m = 6 ∨ m = 7 ∨ m = 8 ∨ m = 9 := by omega
    rcases hcs with rfl | rfl | rfl | rfl | rfl | rfl | rfl | rfl | rfl | rfl
    · exact r
    · have hk := come_ok h (by omega) q.2
      exact r.comes h hk.1 hk.2.1 hk.2.2
    · have hk := go_ok h (by omega) q.2
      exact r.goes h hk.1 hk.2
    · have hk := exch_ok h (by omega) (by omega) q
      exact r.exch h hk.1 hk.2.1 hk.2.2.1 hk.2.2.2.1
    · have hk := jump_ok h (by omega) q.2
      exact r.jumps h hk.1 hk.2.1
    · have hk := merge_ok h (by omega) (by omega) q.2
      exact r.merges h hk.1 hk.2.1 hk.2.2.1 hk.2.2.2
    · have q6 : g % 100 ≤ 60 := q.2.2
      exact (r.goBy h (n := g % 100) (by omega)).1
    · exact r
    · exact r
    · exact r
  · rw [ic_f q, ic_f (fun z => q (hi9.mp z))]; exact r
theorem Rel.turnE (r : Rel c s) (h : Inv T s) {u n : Nat} (hu : u < 2 ^ 31) (hn : n ≤ 30) (hn1 : 1 ≤ n) (hl : 1 ≤ tn (s 1)) : Rel (turnC c u n) (turnS s u n) := by
  have hnl3 := h.nl3
  have e1 : c 1 = s 1 := r.h (by omega)
  have a1 : u / 16 % tn (s 1) < tn (s 1) := Nat.mod_lt _ (by omega)
  have a2 : u / 64 % n < n := Nat.mod_lt _ (by omega)
  have a3 : u / 2048 % n < n := Nat.mod_lt _ (by omega)
  have a4 : u / 64 % tn (s 1) < tn (s 1) := Nat.mod_lt _ (by omega)
  unfold turnC turnS
  rw [e1]
  by_cases c1 : u % 16 ≤ 4
  · rw [ic_t c1, ic_t c1]
    by_cases q : comeFl s (nI (u / 16 % tn (s 1))) (nI (u / 64 % 3)) = 0
    · rw [ic_t q, ic_t ((r.come h).trans q)]
      have hk := come_ok h (by omega) q
      exact r.comes h hk.1 hk.2.1 hk.2.2
    · rw [ic_f q, ic_f (fun z => q ((r.come h).symm.trans z))]; exact r
  · rw [ic_f c1, ic_f c1]
    by_cases c2 : u % 16 ≤ 7
    · rw [ic_t c2, ic_t c2]
      have hi9 := r.exchI h (p := u / 64 % n) (q := u / 2048 % n) (by omega) (by omega)
      by_cases q : exchFl s (nI (u / 64 % n)) (nI (u / 2048 % n)) = 0
      · rw [ic_t q, ic_t (hi9.mpr q)]
        have hk := exch_ok h (by omega) (by omega) q
        exact r.exch h hk.1 hk.2.1 hk.2.2.1 hk.2.2.2.1
      · rw [ic_f q, ic_f (fun z => q (hi9.mp z))]; exact r
    · rw [ic_f c2, ic_f c2]
      by_cases c3 : u % 16 ≤ 9
      · rw [ic_t c3, ic_t c3]
        have hi9 := r.jumpI h (p := u / 64 % n) (by omega)
        by_cases q : jumpFl s (nI (u / 64 % n)) = 0
        · rw [ic_t q, ic_t (hi9.mpr q)]
          have hk := jump_ok h (by omega) q
          exact r.jumps h hk.1 hk.2.1
        · rw [ic_f q, ic_f (fun z => q (hi9.mp z))]; exact r
      · rw [ic_f c3, ic_f c3]
        by_cases c4 : u % 16 = 10
        · rw [ic_t c4, ic_t c4]
          have hi9 := r.goI h (p := u / 64 % n) (by omega)
          by_cases q : goFl s (nI (u / 64 % n)) = 0
          · rw [ic_t q, ic_t (hi9.mpr q)]
            have hk := go_ok h (by omega) q
            exact r.goes h hk.1 hk.2
          · rw [ic_f q, ic_f (fun z => q (hi9.mp z))]; exact r
        · rw [ic_f c4, ic_f c4]
          by_cases c5 : u % 16 = 11
          · rw [ic_t c5]
            by_cases q : mergeFl s (nI (u / 16 % tn (s 1))) (nI (u / 64 % tn (s 1))) = 0
            · rw [ic_t (P := u % 16 = 11 ∧ mergeFl s (nI (u / 16 % tn (s 1))) (nI (u / 64 % tn (s 1))) = 0) ⟨c5, q⟩, ic_t ((r.mergeE h).trans q)]
              have hk := merge_ok h (by omega) (by omega) q
              exact r.merges h hk.1 hk.2.1 hk.2.2.1 hk.2.2.2
            · rw [ic_f (P := u % 16 = 11 ∧ mergeFl s (nI (u / 16 % tn (s 1))) (nI (u / 64 % tn (s 1))) = 0) (fun z => q z.2), ic_f (fun z => q ((r.mergeE h).symm.trans z))]; exact r
          · rw [ic_f c5, ic_f (P := u % 16 = 11 ∧ mergeFl s (nI (u / 16 % tn (s 1))) (nI (u / 64 % tn (s 1))) = 0) (fun z => c5 z.1)]; exact r
end REL3
/-- a simulation, as the class does it -/
noncomputable def simC (s : Nat → Int32) (x : Int64) : Nat → Nat → Int32 | 0 => s | k + 1 => minuteS (turnC (simC s x k) (seedR x k) (max 1 (tn (simC s x k 2))))
noncomputable def simCN (s : Nat → Int32) (x : Int64) : Nat → Nat | 0 => 0 | k + 1 => simCN s x k + minuteN (turnC (simC s x k) (seedR x k) (max 1 (tn (simC s x k 2))))
theorem Rel.simE {c s : Nat → Int32} {T : Nat} (r : Rel c s) (h : Inv T s) (hl : 1 ≤ tn (s 1)) (x : Int64) : ∀ {k : Nat}, T + k ≤ 1000000 → Rel (simC c x k) (simS s x k) ∧ simCN c x k = simN s x k
  | 0, _ => ⟨r, rfl⟩
  | k + 1, hk => by
    obtain ⟨i1, i2⟩ := Inv.sim h hl x (k := k) (by omega)
    obtain ⟨r1, r2⟩ := Rel.simE r h hl x (k := k) (by omega)
    have h30 := i1.np30
    have t1 := i1.turnI (r := seedR x k) (n := max 1 (tn (simS s x k 2))) (seedR_lt x k) (by omega) (by omega) (by rw [i2]; exact hl)
    have t2 := r1.turnE i1 (u := seedR x k) (n := max 1 (tn (simS s x k 2))) (seedR_lt x k) (by omega) (by omega) (by rw [i2]; exact hl)
    have t3 := t2.minute t1 (by omega)
    have e2 : simC c x k 2 = simS s x k 2 := r1.h (by omega)
    have d1 : simC c x (k + 1) = minuteS (turnC (simC c x k) (seedR x k) (max 1 (tn (simS s x k 2)))) := by rw [← e2]; rfl
    have d2 : simCN c x (k + 1) = simCN c x k + minuteN (turnC (simC c x k) (seedR x k) (max 1 (tn (simS s x k 2)))) := by rw [← e2]; rfl
    rw [d1, d2, r2, t3.2]
    exact ⟨t3.1, rfl⟩
/-- a script, as the class does it -/
noncomputable def scrStepC (g k : Nat) (r : (Nat → Int32) × Int32) : (Nat → Int32) × Int32 := ic (r.2 = -1) (succC r.1 g, ic (succPC r.1 g) (-1) (nI k)) r
noncomputable def scrC (s : Nat → Int32) (n g : Nat) : Nat → (Nat → Int32) × Int32 | 0 => (s, -1) | k + 1 => scrStepC (grp n g k) k (scrC s n g k)
theorem Rel.scrE {c s : Nat → Int32} {T n g : Nat} (r : Rel c s) (h : Inv T s) : ∀ {k : Nat}, T + 60 * k ≤ 1000000 → Rel (scrC c n g k).1 (scrB s n g k).1 ∧ (scrC c n g k).2 = (scrB s n g k).2
  | 0, _ => ⟨r, rfl⟩
  | k + 1, hk => by
    have i1 := Inv.scr h (n := n) (g := g) (k := k) (by omega)
    obtain ⟨r1, r2⟩ := Rel.scrE r h (n := n) (g := g) (k := k) (by omega)
    have g1 := grp_lt n g k
    have p1 := r1.succI i1 g1
    show Rel (scrStepC _ _ (scrC c n g k)).1 (scrStep _ _ (scrB s n g k)).1 ∧ (scrStepC _ _ (scrC c n g k)).2 = (scrStep _ _ (scrB s n g k)).2
    unfold scrStepC scrStep
    by_cases q : (scrB s n g k).2 = -1
    · rw [ic_t q, ic_t (r2.trans q)]
      refine ⟨r1.succK i1 g1 (by omega), ?_⟩
      show ic (succPC (scrC c n g k).1 (grp n g k)) (-1) (nI k) = ic (succP (scrB s n g k).1 (grp n g k)) (-1) (nI k)
      by_cases z : succP (scrB s n g k).1 (grp n g k)
      · rw [ic_t z, ic_t (p1.mpr z)]
      · rw [ic_f z, ic_f (fun w => z (p1.mp w))]
    · rw [ic_f q, ic_f (fun z => q (r2.symm.trans z))]
      exact ⟨r1, r2⟩
