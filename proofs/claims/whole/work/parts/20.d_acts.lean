/-! WHAT THE ACTIONS KEEP -/
section KEEP9
variable {s : Nat → Int32} {T : Nat}
theorem Inv.setP (h : Inv T s) {i : Nat} (h6 : 6 ≤ i) (h9 : i < 10) (v : Int32) (hS : InvS (upd s i v)) : Inv T (upd s i v) := by
  have e : ∀ j, j < 6 ∨ 10 ≤ j → upd s i v j = s j := fun j hj => by rw [upd_ap, if_neg (by omega)]
  refine ⟨h.1, by rw [e 1 (by omega)]; exact h.2.1, by rw [e 2 (by omega)]; exact h.2.2.1, by rw [e 0 (by omega)]; exact h.2.2.2.1, fun l hl => ?_, fun l k hl hk => ?_, fun l j k hl hj hk q => ?_, fun p hp => ?_, hS⟩
  · rw [e 1 (by omega)] at hl
    unfold InvL; rw [e (10 + l) (by omega), e (13 + l) (by omega), e (16 + l) (by omega)]; exact h.L hl
  · rw [e 1 (by omega)] at hl; rw [e (13 + l) (by omega)] at hk
    unfold InvR; rw [e (22 + 12 * l + k) (by omega), e 2 (by omega), e (58 + 10 * tn (s (22 + 12 * l + k)) + 5) (by omega), e (58 + 10 * tn (s (22 + 12 * l + k)) + 1) (by omega)]; exact h.R hl hk
  · rw [e 1 (by omega)] at hl; rw [e (13 + l) (by omega)] at hj hk; rw [e (22 + 12 * l + j) (by omega), e (22 + 12 * l + k) (by omega)] at q
    exact h.D hl hj hk q
  · rw [e 2 (by omega)] at hp
    obtain ⟨p1, p2, p3, p4⟩ := h.P hp
    refine ⟨fun q => ?_, fun q => ?_, ?_, ?_⟩
    · rw [e (58 + 10 * p + 5) (by omega)] at q
      obtain ⟨l, a1, a2, k, a3, a4⟩ := p1 q
      exact ⟨l, by rw [e 1 (by omega)]; exact a1, by rw [e (58 + 10 * p + 1) (by omega)]; exact a2, k, by rw [e (13 + l) (by omega)]; exact a3, by rw [e (22 + 12 * l + k) (by omega)]; exact a4⟩
    · rw [e (58 + 10 * p + 5) (by omega)] at q; rw [e (58 + 10 * p + 1) (by omega)]; exact p2 q
    · rw [e (58 + 10 * p + 2) (by omega), e 0 (by omega)]; exact p3
    · rw [e (58 + 10 * p + 6) (by omega), e 0 (by omega)]; exact p4
theorem Inv.addLine (h : Inv T s) (hz : Zl s) (hl3 : tn (s 1) < 3) {k : Nat} (h1 : 1 ≤ k) (h20 : k ≤ 20) : Inv T (upd (upd s (10 + tn (s 1)) (nI k)) 1 (nI (tn (s 1) + 1))) := by
  have e : ∀ j, j ≠ 1 → j ≠ 10 + tn (s 1) → upd (upd s (10 + tn (s 1)) (nI k)) 1 (nI (tn (s 1) + 1)) j = s j := fun j hj hj2 => by rw [upd_ap, if_neg (by omega), upd_ap, if_neg (by omega)]
  have el : upd (upd s (10 + tn (s 1)) (nI k)) 1 (nI (tn (s 1) + 1)) (10 + tn (s 1)) = nI k := by rw [upd_ap, if_neg (by omega), upd_ap, if_pos rfl]
  have e1 : upd (upd s (10 + tn (s 1)) (nI k)) 1 (nI (tn (s 1) + 1)) 1 = nI (tn (s 1) + 1) := by rw [upd_ap, if_pos rfl]
  have et : tn (upd (upd s (10 + tn (s 1)) (nI k)) 1 (nI (tn (s 1) + 1)) 1) = tn (s 1) + 1 := by rw [e1, tn_nI (by omega)]
  generalize upd (upd s (10 + tn (s 1)) (nI k)) 1 (nI (tn (s 1) + 1)) = u at e el e1 et ⊢
  obtain ⟨z1, z2, -⟩ := hz (tn (s 1)) (Nat.le_refl _) hl3
  have z0 : tn (0 : Int32) = 0 := by decide
  refine ⟨h.1, by rw [e1]; exact isN_nI (by omega), by rw [e 2 (by omega) (by omega)]; exact h.2.2.1, by rw [e 0 (by omega) (by omega)]; exact h.2.2.2.1, fun l hl => ?_, fun l j hl hk => ?_, fun l j i hl hj hk q => ?_, fun p hp => ?_, ?_⟩
  · rw [et] at hl
    unfold InvL
    rw [e (13 + l) (by omega) (by omega), e (16 + l) (by omega) (by omega)]
    by_cases q : l = tn (s 1)
    · rw [q, el, z1, z2, tn_nI (by omega), z0]
      exact ⟨isN_nI h20, isN_nI (n := 0) (by omega), isN_nI (n := 0) (by omega), by omega⟩
    · rw [e (10 + l) (by omega) (by omega)]; exact h.L (by omega)
  · rw [et] at hl; rw [e (13 + l) (by omega) (by omega)] at hk
    by_cases q : l = tn (s 1)
    · rw [q, z1, z0] at hk; omega
    · unfold InvR; rw [e (22 + 12 * l + j) (by omega) (by omega), e 2 (by omega) (by omega), e (58 + 10 * tn (s (22 + 12 * l + j)) + 5) (by omega) (by omega), e (58 + 10 * tn (s (22 + 12 * l + j)) + 1) (by omega) (by omega)]; exact h.R (by omega) hk
  · rw [et] at hl; rw [e (13 + l) (by omega) (by omega)] at hj hk; rw [e (22 + 12 * l + j) (by omega) (by omega), e (22 + 12 * l + i) (by omega) (by omega)] at q
    by_cases q2 : l = tn (s 1)
    · rw [q2, z1, z0] at hk; omega
    · exact h.D (by omega) hj hk q
  · rw [e 2 (by omega) (by omega)] at hp
    obtain ⟨p1, p2, p3, p4⟩ := h.P hp
    refine ⟨fun q => ?_, fun q => ?_, ?_, ?_⟩
    · rw [e (58 + 10 * p + 5) (by omega) (by omega)] at q
      obtain ⟨l, a1, a2, j, a3, a4⟩ := p1 q
      exact ⟨l, by rw [et]; omega, by rw [e (58 + 10 * p + 1) (by omega) (by omega)]; exact a2, j, by rw [e (13 + l) (by omega) (by omega)]; exact a3, by rw [e (22 + 12 * l + j) (by omega) (by omega)]; exact a4⟩
    · rw [e (58 + 10 * p + 5) (by omega) (by omega)] at q; rw [e (58 + 10 * p + 1) (by omega) (by omega)]; exact p2 q
    · rw [e (58 + 10 * p + 2) (by omega) (by omega), e 0 (by omega) (by omega)]; exact p3
    · rw [e (58 + 10 * p + 6) (by omega) (by omega), e 0 (by omega) (by omega)]; exact p4
  · unfold InvS
    rw [e 6 (by omega) (by omega), e 7 (by omega) (by omega), e 8 (by omega) (by omega), e 9 (by omega) (by omega)]
    exact h.S
theorem Inv.goBy_1 (h : Inv T s) : ∀ {n : Nat}, T + n ≤ 1000000 → goByS s n 1 = s 1
  | 0, _ => rfl
  | n + 1, hn => ((h.goBy (n := n) (by omega)).min_h (by omega) (by omega) (by omega) (by omega)).trans (Inv.goBy_1 h (n := n) (by omega))
theorem G1.of {u : Nat → Int32} {U : Nat} (h : G1 T s) (hi : Inv U u) (hz : Zl u) (e : u 1 = s 1) : G1 U u := ⟨hi, hz, by rw [e]; exact h.2.2⟩
theorem G1.comes (h : G1 T s) {l k0 : Nat} (hl : l < tn (s 1)) (hp : tn (s 2) < 30) (hlen : tn (s (13 + l)) < 12) : G1 T (comesS s l k0) := by
  have h3 := h.1.nl3
  exact h.of (h.1.comes hl hp hlen) (h.2.1.comes h.1 hl) (by unfold comesS; rw [comesF_lo (by omega), if_neg (by omega), if_neg (by omega), if_neg (by omega)])
theorem G1.goes (h : G1 T s) {p : Nat} (hp : p < tn (s 2)) (hq : s (58 + 10 * p + 5) = 0) : G1 T (goesS s p) :=
  h.of (h.1.goes hp hq) (h.2.1.goes h.1 hp hq) (by unfold goesS; rw [lvF_h (by omega)])
theorem G1.exch (h : G1 T s) {p q : Nat} (hp : p < tn (s 2)) (hq : q < tn (s 2)) (hm : MayX s p q) : G1 T (exchS s p q) :=
  h.of (h.1.exch hp hq hm) (h.2.1.exch h.1 hp hm) (exchS_1 h.1 hp hm.1)
theorem G1.jumps (h : G1 T s) {p : Nat} (hp : p < tn (s 2)) (hq : s (58 + 10 * p + 5) = 0) : G1 T (jumpsS s p) :=
  h.of (h.1.jumps hp hq) (h.2.1.jumps h.1 hp hq) (jumpsS_1 h.1 hp hq)
theorem G1.merges (h : G1 T s) {l o : Nat} (hl : l < tn (s 1)) (ho : o < tn (s 1)) (hlo : l ≠ o) (hab : tn (s (13 + l)) + tn (s (13 + o)) ≤ 12) : G1 T (mergesF s l o) := by
  have h3 := h.1.nl3
  exact h.of (h.1.merges hl ho hlo hab) (h.2.1.merges h.1 hl ho hlo hab) (by rw [h.1.merges_h hl ho hlo hab (by omega), if_neg (by omega), if_neg (by omega), if_neg (by omega)])
theorem G1.goBy (h : G1 T s) {n : Nat} (hT : T + n ≤ 1000000) : G1 (T + n) (goByS s n) := h.of (h.1.goBy hT) (h.2.1.goBy h.1 hT) (h.1.goBy_1 hT)
theorem G1.addLine (h : G1 T s) (hl3 : tn (s 1) < 3) {k : Nat} (h1 : 1 ≤ k) (h20 : k ≤ 20) : G1 T (upd (upd s (10 + tn (s 1)) (nI k)) 1 (nI (tn (s 1) + 1))) :=
  ⟨h.1.addLine h.2.1 hl3 h1 h20, h.2.1.addLine hl3 _, by rw [upd_ap, if_pos rfl, tn_nI (by omega)]; omega⟩
theorem G1.setV (h : G1 T s) {k : Nat} (hk : k < 4) {v : Int32} (hv : stLeast k ≤ v ∧ v ≤ stMost k) : G1 T (upd s (6 + k) v) := by
  refine ⟨h.1.setP (by omega) (by omega) v ?_, h.2.1.setV hk v, by rw [upd_ap, if_neg (by omega)]; exact h.2.2⟩
  obtain ⟨s1, s2, s3, s4, s5⟩ := h.1.S
  unfold InvS
  rcases (show k = 0 ∨ k = 1 ∨ k = 2 ∨ k = 3 by omega) with rfl | rfl | rfl | rfl
  · obtain ⟨j, j1, j2, rfl⟩ := rg_ab (a := 10) (b := 99) (x := v) hv (by decide) (by decide)
    simp only [upd_ap, Nat.reduceAdd, Nat.reduceEqDiff, if_true, if_false]
    exact ⟨⟨isN_nI j2, by rw [tn_nI (by omega)]; exact j1⟩, s2, s3, s4, s5⟩
  · obtain ⟨j, j1, j2, rfl⟩ := rg_ab (a := 0) (b := 50) (x := v) hv (by decide) (by decide)
    simp only [upd_ap, Nat.reduceAdd, Nat.reduceEqDiff, if_true, if_false]
    exact ⟨s1, isN_nI j2, s3, s4, s5⟩
  · obtain ⟨j, j1, j2, rfl⟩ := rg_ab (a := 1) (b := 9) (x := v) hv (by decide) (by decide)
    simp only [upd_ap, Nat.reduceAdd, Nat.reduceEqDiff, if_true, if_false]
    exact ⟨s1, s2, ⟨isN_nI j2, by rw [tn_nI (by omega)]; exact j1⟩, s4, s5⟩
  · obtain ⟨j, j1, j2, rfl⟩ := rg_ab (a := 1) (b := 5) (x := v) hv (by decide) (by decide)
    simp only [upd_ap, Nat.reduceAdd, Nat.reduceEqDiff, if_true, if_false]
    exact ⟨s1, s2, s3, isN_nI j2, by rw [tn_nI (by omega)]; exact j1⟩
end KEEP9
section CK9
variable {σ τ : Nat → Nat → Int32} {c c' d d' s s' : Nat → Int32} {og m lz : Nat} {h sl : Nat → Nat → Int32} {fl : Nat → Prop} {t : Nat → Int32} {a : AB}
theorem hs5 {x : Nat → Nat → Int32} : hs x 1 c 5 = x 5 := hs_out (by omega)
theorem Ck.act (h5 : σ 5 3 = nI 0) (hC : ClX σ c (s, m, h, sl, fl, t, lz)) (hH : HXo σ og m h) (r : Rel c' s') : Ck (hs (puH σ c og m) 1 c') (s', min (m + 1) 14, pushH h m s, sl, fl, t, lz) :=
  ⟨Cl.act hC hH r, by rw [hs5, puH_out (by omega) (by omega)]; exact h5⟩
theorem act_far {r : Nat} : ∀ n, 781 ≤ n → n < 788 → hs (puH σ c og r) 1 c' n = σ n := fun n g1 g2 => by rw [hs_far (by omega), puH_out (by omega) (by omega)]
end CK9
/-! WHAT A DAY KEEPS -/
section DAY9
variable {t s : Nat → Int32} {T lz : Nat}
theorem G1.doc {p : Nat} (g : G1 T s) (hT : T + 9 ≤ 1000000) (hB : cmdB t lz p) : G1 (T + 9) (docS t p s) := by
  have h := g.1
  have hl := (cmdN_ok hB).2.2
  have e9 := chrT_of (t := t) hl
  unfold docS
  by_cases q : docP t p s
  · rw [ic_t q]
    rcases cmdB_cases hB with c | c | c | c | c
    · rw [cmdB_c c] at hB
      have l1 := dgN_of (by omega) (by omega) hB.1 (by omega)
      have l2 := dgN_of (by omega) (by omega) hB.2 (by omega)
      have l3 : 48 + dgN t (p + 2) ≤ 50 := l2.2.2
      rw [e9] at c
      rw [docP_c c] at q
      rw [docX_c c]
      have hk := come_ok h (by omega) q
      exact (g.comes hk.1 hk.2.1 hk.2.2).mono (by omega) hT
    · rw [cmdB_g c] at hB
      have l1 := (pers_of hB).2.1
      rw [e9] at c
      rw [docP_g c] at q
      rw [docX_g c]
      have hk := go_ok h (by omega) q
      exact (g.goes hk.1 hk.2).mono (by omega) hT
    · rw [cmdB_j c] at hB
      have l1 := (pers_of hB).2.1
      rw [e9] at c
      rw [docP_j c] at q
      rw [docX_j c]
      have hk := jump_ok h (by omega) q
      exact (g.jumps hk.1 hk.2.1).mono (by omega) hT
    · rw [cmdB_t c] at hB
      have l1 := dgN_of (by omega) (by omega) hB (by omega)
      rw [e9] at c
      rw [docX_t c]
      exact (g.goBy (n := dgN t (p + 1)) (by omega)).mono (by omega) hT
    · rw [cmdB_x c] at hB
      have l1 := (pers_of hB.1).2.1
      have h2 := hB.2
      rw [(pers_of hB.1).2.2.1] at h2
      have l2 : nmN t (p + 3) < 30 := (pers_of h2).2.1
      rw [e9] at c
      rw [docP_x c] at q
      rw [docX_x c]
      have hk := exch_ok h (by omega) (by omega) q
      exact (g.exch hk.1 hk.2.1 hk.2.2).mono (by omega) hT
  · rw [ic_f q]; exact g.mono (by omega) hT
theorem G1.day {q : Nat} (g : G1 T s) (hK : (comR t lz q 100).2) : ∀ {k : Nat}, k ≤ 100 → T + 9 * k ≤ 1000000 → G1 (T + 9 * k) (mR t lz q s k).1
  | 0, _, _ => g
  | k + 1, hk, hT => by
    have ih := G1.day g hK (k := k) (by omega) (by omega)
    show G1 _ (ic ((comR t lz q k).1 < lz) _ (mR t lz q s k)).1
    by_cases hl : (comR t lz q k).1 < lz
    · rw [ic_t hl]
      have h1 := comR_b (show k ≤ 100 by omega) hK
      have h2 := comR_b (show k + 1 ≤ 100 by omega) hK
      rw [comR_s h1 hl] at h2
      exact G1.doc ih (by omega) h2
    · rw [ic_f hl]; exact ih.mono (by omega) (by omega)
theorem Inv.beg : Inv 0 beginF := by
  have e1 : tn (beginF 1) = 0 := by decide +kernel
  have e2 : tn (beginF 2) = 0 := by decide +kernel
  refine ⟨by omega, ⟨0, by omega, by decide +kernel⟩, ⟨0, by omega, by decide +kernel⟩, ⟨0, by omega, by decide +kernel⟩, fun l hl => ?_, fun l k hl _ => ?_, fun l j k hl _ _ _ => ?_, fun p hp => ?_, ?_⟩
  · rw [e1] at hl; omega
  · rw [e1] at hl; omega
  · rw [e1] at hl; omega
  · rw [e2] at hp; omega
  · exact ⟨⟨⟨30, by omega, by decide +kernel⟩, by decide +kernel⟩, ⟨5, by omega, by decide +kernel⟩, ⟨⟨2, by omega, by decide +kernel⟩, by decide +kernel⟩, ⟨2, by omega, by decide +kernel⟩, by decide +kernel⟩
theorem lnS_inv : ∀ {k : Nat}, k ≤ 3 → (∀ j, j < k → 1 ≤ nmN t (2 + 2 * j) ∧ nmN t (2 + 2 * j) ≤ 20) → Inv 0 (lnS t k)
  | 0, _, _ => Inv.beg
  | k + 1, hk, hp => by
    have ih := lnS_inv (k := k) (by omega) (fun j hj => hp j (by omega))
    have e : tn (lnS t k 1) = k := by rw [lnS_1, tn_nI (by omega)]
    have h9 := ih.addLine (lnS_zl t (by omega)) (by rw [e]; omega) (hp k (by omega)).1 (hp k (by omega)).2
    rw [e] at h9
    exact h9
theorem prs_paces (h : (prs t lz).2) : 1 ≤ dgN t 1 ∧ dgN t 1 ≤ 3 ∧ ∀ j, j < dgN t 1 → 1 ≤ nmN t (2 + 2 * j) ∧ nmN t (2 + 2 * j) ≤ 20 := by
  obtain ⟨hw, hd, hp2, hK⟩ := prs_ok h
  obtain ⟨d1, d2, d3⟩ := dgN_of (by omega) (by omega) hd (by omega)
  refine ⟨by omega, by omega, fun j hj => ?_⟩
  have b1 := pacR_b (show j ≤ dgN t 1 by omega) hp2
  have b2 := pacR_b (show j + 1 ≤ dgN t 1 by omega) hp2
  rw [pacR_s b1, (pacR_ok b1).1] at b2
  have b3 := pace_of b2
  exact ⟨b3.2.1, b3.2.2.1⟩
theorem prs_inv (h : (prs t lz).2) : Inv 0 (lnS t (dgN t 1)) := lnS_inv (prs_paces h).2.1 (prs_paces h).2.2
theorem ldS_G (h : (prs t lz).2) : G1 900 (ldS t lz).1 := by
  obtain ⟨hw, hd, hp2, hK⟩ := prs_ok h
  obtain ⟨p1, p2, -⟩ := prs_paces h
  have g : G1 0 (lnS t (dgN t 1)) := ⟨prs_inv h, lnS_zl t p2, by rw [lnS_1, tn_nI (by omega)]; exact p1⟩
  exact (G1.day g hK (k := 100) (Nat.le_refl _) (by omega)).mono (by omega) (by omega)
theorem byte_and {x : Int32} (h : Rg 256 x) : x.toInt8.toInt32 &&& nI 255 = x := by
  obtain ⟨j, hj, rfl⟩ := h
  exact (by decide +kernel : ∀ j, j < 256 → (nI j).toInt8.toInt32 &&& nI 255 = nI j) j hj
theorem byte_87 {x : Int32} (h : Rg 256 x) : x.toInt8.toInt32 = nI 87 ↔ x = nI 87 := by
  obtain ⟨j, hj, rfl⟩ := h
  exact (by decide +kernel : ∀ j, j < 256 → ((nI j).toInt8.toInt32 = nI 87 ↔ nI j = nI 87)) j hj
end DAY9
