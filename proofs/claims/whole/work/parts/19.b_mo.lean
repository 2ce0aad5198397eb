/-! THE MODEL'S STEPS ON THE ABSTRACT STATE -/
section MO9
variable {σ : Nat → Nat → Int32} {s : Nat → Int32} {m lz : Nat} {h sl : Nat → Nat → Int32} {fl : Nat → Prop} {t : Nat → Int32} {a : AB} {g0 g1 g2 g3 g4 g5 g6 : Nat → Int32}
theorem Mo.mk (e : (g0 3 = nI 0 ∧ g0 5 = nI a.2.1 ∧ g0 9 = nI a.2.2.2.2.2.2) ∧ g1 = a.1 ∧ (∀ i, i < a.2.1 → ∀ k, k < 358 → g3 (358 * i + k) = a.2.2.1 i k) ∧ (∀ j, j < 2 → g5 j = bi (a.2.2.2.2.1 j) ∧ (a.2.2.2.2.1 j → ∀ k, k < 358 → g4 (358 * j + k) = a.2.2.2.1 j k)) ∧ ∀ k, k < a.2.2.2.2.2.2 → g6 k = (a.2.2.2.2.2.1 k).toInt8.toInt32) : Mo (mk7 σ 781 g0 g1 g2 g3 g4 g5 g6) a := by
  unfold Mo
  rw [show mk7 σ 781 g0 g1 g2 g3 g4 g5 g6 781 = g0 from mk7_0, show mk7 σ 781 g0 g1 g2 g3 g4 g5 g6 782 = g1 from mk7_1, show mk7 σ 781 g0 g1 g2 g3 g4 g5 g6 784 = g3 from mk7_3, show mk7 σ 781 g0 g1 g2 g3 g4 g5 g6 785 = g4 from mk7_4, show mk7 σ 781 g0 g1 g2 g3 g4 g5 g6 786 = g5 from mk7_5, show mk7 σ 781 g0 g1 g2 g3 g4 g5 g6 787 = g6 from mk7_6]
  exact e
theorem Mo.form (hM : Mo σ a) : mk7 σ 781 (σ 781) a.1 (σ 783) (σ 784) (σ 785) (σ 786) (σ 787) = σ := by
  rw [← hM.2.1]; exact mk7_id
theorem Mo.mkf (hM : Mo σ (s, m, h, sl, fl, t, lz)) : mk7 σ 781 (σ 781) s (σ 783) (σ 784) (σ 785) (σ 786) (σ 787) = σ := hM.form
theorem mk7_far {n : Nat} (hn : n < 781 ∨ n = 788) : mk7 σ 781 g0 g1 g2 g3 g4 g5 g6 n = σ n := mk7_out (by omega)
/-- nothing but the answer's place and the pile -/
theorem Mo.q (hM : Mo σ a) (e0 : ∀ i, i = 3 ∨ i = 5 ∨ i = 9 → g0 i = σ 781 i) : Mo (mk7 σ 781 g0 a.1 g2 (σ 784) (σ 785) (σ 786) (σ 787)) a :=
  Mo.mk ⟨⟨by rw [e0 3 (by omega)]; exact hM.1.1, by rw [e0 5 (by omega)]; exact hM.1.2.1, by rw [e0 9 (by omega)]; exact hM.1.2.2⟩, rfl, hM.2.2⟩
theorem Mo.act (hM : Mo σ (s, m, h, sl, fl, t, lz)) (h14 : m ≤ 14) {s' : Nat → Int32} (e0 : ∀ i, i = 3 ∨ i = 9 → g0 i = σ 781 i) (e5 : g0 5 = nI (min (m + 1) 14)) : Mo (mk7 σ 781 g0 s' g2 (remF s (σ 784) m) (σ 785) (σ 786) (σ 787)) (s', min (m + 1) 14, pushH h m s, sl, fl, t, lz) := by
  refine Mo.mk ⟨⟨by rw [e0 3 (by omega)]; exact hM.1.1, e5, by rw [e0 9 (by omega)]; exact hM.1.2.2⟩, rfl, fun i hi k hk => ?_, hM.2.2.2⟩
  have hi' : i < min (m + 1) 14 := hi
  have h3 := hM.2.2.1
  show remF s (σ 784) m (358 * i + k) = pushH h m s i k
  unfold remF pushH cpF
  by_cases q : m < 14
  · rw [if_pos q, if_pos q]
    by_cases e : i = m
    · rw [e, va_up_self, if_pos (by omega)]; congr 1; omega
    · rw [va_up_ne _ _ e, if_neg (by omega)]; exact h3 i (show i < m by omega) k hk
  · rw [if_neg q, if_neg q]
    by_cases e : i = 13
    · rw [if_pos e, if_pos (by omega)]; exact congrArg s (by omega)
    · rw [if_neg e, if_neg (by omega), if_pos (by omega)]
      have z := h3 (i + 1) (show i + 1 < m by omega) k hk
      rw [show 358 + (358 * i + k - 0) = 358 * (i + 1) + k by omega]
      exact z
theorem Mo.undo {rg : Nat} (hM : Mo σ (s, rg + 1, h, sl, fl, t, lz)) (e0 : ∀ i, i = 3 ∨ i = 9 → g0 i = σ 781 i) (e5 : g0 5 = nI rg) : Mo (mk7 σ 781 g0 (h rg) g2 (σ 784) (σ 785) (σ 786) (σ 787)) (h rg, rg, h, sl, fl, t, lz) :=
  Mo.mk ⟨⟨by rw [e0 3 (by omega)]; exact hM.1.1, e5, by rw [e0 9 (by omega)]; exact hM.1.2.2⟩, rfl, fun i hi k hk => hM.2.2.1 i (show i < rg + 1 from Nat.lt_succ_of_lt hi) k hk, hM.2.2.2⟩
theorem Mo.save {kz : Nat} (hM : Mo σ (s, m, h, sl, fl, t, lz)) (hz : kz < 2) (e0 : ∀ i, i = 3 ∨ i = 5 ∨ i = 9 → g0 i = σ 781 i) : Mo (mk7 σ 781 g0 s g2 (σ 784) (cpF s (σ 785) 0 (358 * kz) 358) (upd (σ 786) kz (nI 1)) (σ 787)) (s, m, h, va_up sl kz s, (fun j => j = kz ∨ fl j), t, lz) := by
  refine Mo.mk ⟨⟨by rw [e0 3 (by omega)]; exact hM.1.1, by rw [e0 5 (by omega)]; exact hM.1.2.1, by rw [e0 9 (by omega)]; exact hM.1.2.2⟩, rfl, hM.2.2.1, fun j hj => ?_, hM.2.2.2.2⟩
  obtain ⟨k1, k2⟩ := hM.2.2.2.1 j hj
  show upd (σ 786) kz (nI 1) j = bi (j = kz ∨ fl j) ∧ ((j = kz ∨ fl j) → ∀ k, k < 358 → cpF s (σ 785) 0 (358 * kz) 358 (358 * j + k) = va_up sl kz s j k)
  rw [upd_ap]
  by_cases q : j = kz
  · refine ⟨by rw [if_pos q]; exact bi_nt (Or.inl q), fun _ k hk => ?_⟩
    rw [q, va_up_self]; unfold cpF; rw [if_pos (by omega)]; congr 1; omega
  · refine ⟨by rw [if_neg q, k1]; exact congrArg bi (propext ⟨fun z => Or.inr z, fun z => z.resolve_left q⟩), fun z k hk => ?_⟩
    rw [va_up_ne _ _ q]; unfold cpF; rw [if_neg (by omega)]; exact k2 (z.resolve_left q) k hk
theorem Mo.restore {kz : Nat} (hM : Mo σ (s, m, h, sl, fl, t, lz)) (e0 : ∀ i, i = 3 ∨ i = 9 → g0 i = σ 781 i) (e5 : g0 5 = nI 0) : Mo (mk7 σ 781 g0 (sl kz) g2 (σ 784) (σ 785) (σ 786) (σ 787)) (sl kz, 0, h, sl, fl, t, lz) :=
  Mo.mk ⟨⟨by rw [e0 3 (by omega)]; exact hM.1.1, e5, by rw [e0 9 (by omega)]; exact hM.1.2.2⟩, rfl, fun i hi => absurd hi (Nat.not_lt_zero _), hM.2.2.2⟩
theorem Mo.load {s' : Nat → Int32} (hM : Mo σ (s, m, h, sl, fl, t, lz)) (e0 : ∀ i, i = 3 ∨ i = 9 → g0 i = σ 781 i) (e5 : g0 5 = nI 0) : Mo (mk7 σ 781 g0 s' g2 (σ 784) (σ 785) (upd (upd (σ 786) 0 (nI 0)) 1 (nI 0)) (σ 787)) (s', 0, h, sl, (fun _ => False), t, lz) := by
  refine Mo.mk ⟨⟨by rw [e0 3 (by omega)]; exact hM.1.1, e5, by rw [e0 9 (by omega)]; exact hM.1.2.2⟩, rfl, fun i hi => absurd hi (Nat.not_lt_zero _), fun j hj => ⟨?_, fun z => z.elim⟩, hM.2.2.2.2⟩
  rw [upd_ap, upd_ap]
  rcases (show j = 0 ∨ j = 1 by omega) with rfl | rfl
  · rw [if_neg (by omega), if_pos rfl]; exact bi_nf (fun z => z)
  · rw [if_pos rfl]; exact bi_nf (fun z => z)
theorem Mo.append {c : Nat} (hM : Mo σ (s, m, h, sl, fl, t, lz)) (e0 : ∀ i, i = 3 ∨ i = 5 → g0 i = σ 781 i) (e9 : g0 9 = nI (lz + 1)) : Mo (mk7 σ 781 g0 s g2 (σ 784) (σ 785) (σ 786) (upd (σ 787) lz (nI c).toInt8.toInt32)) (s, m, h, sl, fl, upd t lz (nI c), lz + 1) := by
  refine Mo.mk ⟨⟨by rw [e0 3 (by omega)]; exact hM.1.1, by rw [e0 5 (by omega)]; exact hM.1.2.1, e9⟩, rfl, hM.2.2.1, hM.2.2.2.1, fun k hk => ?_⟩
  have hk' : k < lz + 1 := hk
  show upd (σ 787) lz _ k = (upd t lz (nI c) k).toInt8.toInt32
  rw [upd_ap, upd_ap]
  by_cases q : k = lz
  · rw [if_pos q, if_pos q]
  · rw [if_neg q, if_neg q]; exact hM.2.2.2.2 k (show k < lz by omega)
theorem Mo.clear (hM : Mo σ (s, m, h, sl, fl, t, lz)) (e0 : ∀ i, i = 3 ∨ i = 5 → g0 i = σ 781 i) (e9 : g0 9 = nI 0) : Mo (mk7 σ 781 g0 s g2 (σ 784) (σ 785) (σ 786) (σ 787)) (s, m, h, sl, fl, t, 0) :=
  Mo.mk ⟨⟨by rw [e0 3 (by omega)]; exact hM.1.1, by rw [e0 5 (by omega)]; exact hM.1.2.1, e9⟩, rfl, hM.2.2.1, hM.2.2.2.1, fun k hk => absurd hk (Nat.not_lt_zero _)⟩
end MO9
section GO9
variable {s s' : Nat → Int32} {m lz T U : Nat} {h sl : Nat → Nat → Int32} {fl : Nat → Prop} {t : Nat → Int32} {a : AB}
theorem Go.act (hG : Go T (s, m, h, sl, fl, t, lz)) (hTU : T ≤ U) (hU : U ≤ 1000000) (h1 : G1 U s') : Go U (s', min (m + 1) 14, pushH h m s, sl, fl, t, lz) := by
  obtain ⟨a1, a2, a3, a4, a5⟩ := hG.mono hTU hU
  refine ⟨h1, fun i hi => ?_, a3, Nat.min_le_right _ _, a5⟩
  have hi' : i < min (m + 1) 14 := hi
  have a4' : m ≤ 14 := a4
  show G1 U (pushH h m s i)
  unfold pushH
  by_cases q : m < 14
  · rw [if_pos q]
    by_cases e : i = m
    · rw [e, va_up_self]; exact a1
    · rw [va_up_ne _ _ e]; exact a2 i (show i < m by omega)
  · rw [if_neg q]
    by_cases e : i = 13
    · rw [if_pos e]; exact a1
    · rw [if_neg e]; exact a2 (i + 1) (show i + 1 < m by omega)
theorem Go.undo {rg : Nat} (hG : Go T (s, rg + 1, h, sl, fl, t, lz)) : Go T (h rg, rg, h, sl, fl, t, lz) :=
  ⟨hG.2.1 rg (Nat.lt_succ_self rg), fun i hi => hG.2.1 i (show i < rg + 1 from Nat.lt_succ_of_lt hi), hG.2.2.1, Nat.le_of_succ_le hG.2.2.2.1, hG.2.2.2.2⟩
theorem Go.save {kz : Nat} (hG : Go T (s, m, h, sl, fl, t, lz)) : Go T (s, m, h, va_up sl kz s, (fun j => j = kz ∨ fl j), t, lz) := by
  refine ⟨hG.1, hG.2.1, fun j hj hf => ?_, hG.2.2.2⟩
  show G1 T (va_up sl kz s j)
  by_cases q : j = kz
  · rw [q, va_up_self]; exact hG.1
  · rw [va_up_ne _ _ q]; exact hG.2.2.1 j hj (Or.resolve_left hf q)
theorem Go.restore {kz : Nat} (hG : Go T (s, m, h, sl, fl, t, lz)) (hz : kz < 2) (hf : fl kz) : Go T (sl kz, 0, h, sl, fl, t, lz) :=
  ⟨hG.2.2.1 kz hz hf, fun i hi => absurd hi (Nat.not_lt_zero _), hG.2.2.1, Nat.zero_le _, hG.2.2.2.2⟩
theorem Go.load (hG : Go T (s, m, h, sl, fl, t, lz)) (h1 : G1 T s') : Go T (s', 0, h, sl, (fun _ => False), t, lz) :=
  ⟨h1, fun i hi => absurd hi (Nat.not_lt_zero _), fun j hj hf => hf.elim, Nat.zero_le _, hG.2.2.2.2⟩
theorem Go.append {c : Nat} (hG : Go T (s, m, h, sl, fl, t, lz)) (hl : lz < 100) (hc : c < 256) : Go T (s, m, h, sl, fl, upd t lz (nI c), lz + 1) := by
  refine ⟨hG.1, hG.2.1, hG.2.2.1, hG.2.2.2.1, hl, fun k hk => ?_⟩
  have hk' : k < lz + 1 := hk
  show Rg 256 (upd t lz (nI c) k)
  rw [upd_ap]
  by_cases q : k = lz
  · rw [if_pos q]; exact ⟨c, hc, rfl⟩
  · rw [if_neg q]; exact hG.2.2.2.2.2 k (show k < lz by omega)
theorem Go.clear (hG : Go T (s, m, h, sl, fl, t, lz)) : Go T (s, m, h, sl, fl, t, 0) := ⟨hG.1, hG.2.1, hG.2.2.1, hG.2.2.2.1, Nat.zero_le _, fun k hk => absurd hk (Nat.not_lt_zero _)⟩
end GO9
