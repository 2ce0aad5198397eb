/-! THE QUESTIONS, on both objects -/
theorem rd1 {lu : Launch} {Dg : va_G} {E : Nat → ClassId} {N : Nat} {G : Nat → Nat} {shp : Nat → (Nat → Int32) → va_E} {σ τ : Nat → Nat → Int32} {y : MethodName} {ws : List Cond} {rm : Room} {args : List Value} {x v' : Int32} (h : CS lu y ws rm Dg E N G shp τ args (some (.int x)) τ) (e : τ = σ) (ex : x = v') : CX lu y ws rm Dg E N G shp σ args (fun v t => ∃ z, v = some (.int z) ∧ (z = v' ∧ t = σ)) :=
  (h.x.pre e).to (fun v t hh => ⟨x, hh.1, ex, hh.2.trans e⟩)
theorem rg_ab {a b : Nat} {x : Int32} (h : nI a ≤ x ∧ x ≤ nI b) (ha : a < 2 ^ 31) (hb : b < 2 ^ 31) : ∃ k, a ≤ k ∧ k ≤ b ∧ x = nI k := by
  have h0 : ¬ x < 0 := Int32.not_lt.mpr (Int32.le_trans (nI_pos' ha) h.1)
  obtain ⟨j, hj, rfl⟩ := nI_of h0
  exact ⟨j, (nI_leI ha hj).mp h.1, (nI_leI hj hb).mp h.2, rfl⟩
theorem sub_of {t w m a b : Nat} (h : t + w = m + a + b) : nI t - nI m = nI a + nI b - nI w := by
  have e : nI t + nI w = nI m + nI a + nI b := by rw [nI_add, nI_add, nI_add, h]
  generalize nI t = x at e ⊢
  generalize nI w = y at e ⊢
  generalize nI m = z at e ⊢
  generalize nI a = u at e ⊢
  generalize nI b = v at e ⊢
  grind
theorem sub_self_add (x y : Int32) : x + y - x = y := by grind
theorem op_about (lu : Launch) (hl9 : lu.stackTraces = false) (Dg : va_G) (E : Nat → ClassId) (N : Nat) (G : Nat → Nat) (shp : Nat → (Nat → Int32) → va_E) (σ : Nat → Nat → Int32) (hS : StoodS E G shp N) (hN : 788 < N) (hO : shp 788 = LoS E 1) (hM : ModS E G shp N 781) {a : AB} {T : Nat} (hC : Ck σ a) (hG : Go T a) (hT : T ≤ 990000) (x : Int32) : Pair lu Dg E N G shp σ a T yL_about wsL_about { frames := 7, cells := 1, slots := 6, locals := 161 } [.ref (G 0), .int x, .ref (G 788)] yX6_about wsX6_about { frames := 2, cells := 0, slots := 0, locals := 44 } [.ref (G 781), .int x] := by
  have hI := hG.1.1
  obtain ⟨⟨c, h1, hr, h3⟩, h5⟩ := id hC
  have hIc := hr.inv hI
  have e1 : c 1 = a.1 1 := hr.h (by omega)
  have e2 : c 2 = a.1 2 := hr.h (by omega)
  by_cases hx : Rg 10 x
  · obtain ⟨j, hj, rfl⟩ := hx
    rcases (show j = 0 ∨ j = 1 ∨ j = 2 ∨ j = 3 ∨ j = 4 ∨ j = 5 ∨ j = 6 ∨ j = 7 ∨ j = 8 ∨ j = 9 by omega) with rfl | rfl | rfl | rfl | rfl | rfl | rfl | rfl | rfl | rfl
    · refine Pair.q hC (fun n _ _ => rfl) hG hT (w_about_0 lu Dg E N G shp σ hS hN hO (rd1 (c_X5_about_0_0 lu Dg E N G shp σ hS c hIc) h1 ?_)) (fun σ2 h2 => CS.toq (c_X6_about_0_0 lu Dg E N G shp σ2 hM (σ2 781) a.1 (σ2 783) (σ2 784) (σ2 785) (σ2 786) (σ2 787) hI) rfl)
      exact hr.h (by omega)
    · refine Pair.q hC (fun n _ _ => rfl) hG hT (w_about_0 lu Dg E N G shp σ hS hN hO (rd1 (c_X5_about_0_1 lu Dg E N G shp σ hS c hIc) h1 ?_)) (fun σ2 h2 => CS.toq (c_X6_about_0_1 lu Dg E N G shp σ2 hM (σ2 781) a.1 (σ2 783) (σ2 784) (σ2 785) (σ2 786) (σ2 787) hI) rfl)
      exact hr.h (by omega)
    · refine Pair.q hC (fun n _ _ => rfl) hG hT (w_about_0 lu Dg E N G shp σ hS hN hO (rd1 (c_X5_about_0_2 lu Dg E N G shp σ hS c hIc) h1 ?_)) (fun σ2 h2 => CS.toq (c_X6_about_0_2 lu Dg E N G shp σ2 hM (σ2 781) a.1 (σ2 783) (σ2 784) (σ2 785) (σ2 786) (σ2 787) hI) rfl)
      exact hr.h (by omega)
    · refine Pair.q hC (fun n _ _ => rfl) hG hT (w_about_0 lu Dg E N G shp σ hS hN hO (rd1 (c_X5_about_0_3 lu Dg E N G shp σ hS c hIc) h1 ?_)) (fun σ2 h2 => CS.toq (c_X6_about_0_3 lu Dg E N G shp σ2 hM (σ2 781) a.1 (σ2 783) (σ2 784) (σ2 785) (σ2 786) (σ2 787) hI) rfl)
      rw [e2]; exact congrArg nI (hr.standE (Nat.le_refl _))
    · refine Pair.q hC (fun n _ _ => rfl) hG hT (w_about_0 lu Dg E N G shp σ hS hN hO (rd1 (c_X5_about_0_4 lu Dg E N G shp σ hS c hIc) h1 ?_)) (fun σ2 h2 => CS.toq (c_X6_about_0_4 lu Dg E N G shp σ2 hM (σ2 781) a.1 (σ2 783) (σ2 784) (σ2 785) (σ2 786) (σ2 787) hI) rfl)
      rw [e2]; exact congrArg nI (hr.standE (Nat.le_refl _))
    · refine Pair.q hC (fun n _ _ => rfl) hG hT (w_about_0 lu Dg E N G shp σ hS hN hO (rd1 (c_X5_about_0_5 lu Dg E N G shp σ hS c hIc) h1 ?_)) (fun σ2 h2 => CS.toq (c_X6_about_0_5 lu Dg E N G shp σ2 hM (σ2 781) a.1 (σ2 783) (σ2 784) (σ2 785) (σ2 786) (σ2 787) hI) rfl)
      rw [e2]; exact congrArg nI (hr.standE (Nat.le_refl _))
    · refine Pair.q hC (fun n _ _ => rfl) hG hT (w_about_0 lu Dg E N G shp σ hS hN hO (rd1 (c_X5_about_0_6 lu Dg E N G shp σ hS c hIc) h1 ?_)) (fun σ2 h2 => CS.toq (c_X6_about_0_6 lu Dg E N G shp σ2 hM (σ2 781) a.1 (σ2 783) (σ2 784) (σ2 785) (σ2 786) (σ2 787) hI) rfl)
      exact hr.h (by omega)
    · refine Pair.q hC (fun n _ _ => rfl) hG hT (w_about_0 lu Dg E N G shp σ hS hN hO (rd1 (c_X5_about_0_7 lu Dg E N G shp σ hS c hIc) h1 ?_)) (fun σ2 h2 => CS.toq (c_X6_about_0_7 lu Dg E N G shp σ2 hM (σ2 781) a.1 (σ2 783) (σ2 784) (σ2 785) (σ2 786) (σ2 787) hI) rfl)
      exact hr.h (by omega)
    · refine Pair.q hC (fun n _ _ => rfl) hG hT (w_about_0 lu Dg E N G shp σ hS hN hO (rd1 (c_X5_about_0_8 lu Dg E N G shp σ hS c hIc) h1 ?_)) (fun σ2 h2 => CS.toq (c_X6_about_0_8 lu Dg E N G shp σ2 hM (σ2 781) a.1 (σ2 783) (σ2 784) (σ2 785) (σ2 786) (σ2 787) hI) rfl)
      exact hr.h (by omega)
    · refine Pair.q hC (fun n _ _ => rfl) hG hT (w_about_0 lu Dg E N G shp σ hS hN hO (rd1 (c_X5_about_0_9 lu Dg E N G shp σ hS c hIc) h1 ?_)) (fun σ2 h2 => CS.toq (c_X6_about_0_9 lu Dg E N G shp σ2 hM (σ2 781) a.1 (σ2 783) (σ2 784) (σ2 785) (σ2 786) (σ2 787) hI) rfl)
      rw [e2]; exact hr.accE (Nat.le_refl _)
  · exact Pair.f (k := 1) (by decide) (by decide) hC hG hT (w_about_1 lu Dg E N G shp σ hS hN hO (th0 (c_X5_about_x lu hl9 Dg E N G shp σ hS c x hx) h1)) (fun σ2 h2 => c_X6_about_1 lu Dg E N G shp σ2 hM (σ2 781) a.1 (σ2 783) (σ2 784) (σ2 785) (σ2 786) (σ2 787) x hx)
theorem op_line (lu : Launch) (hl9 : lu.stackTraces = false) (Dg : va_G) (E : Nat → ClassId) (N : Nat) (G : Nat → Nat) (shp : Nat → (Nat → Int32) → va_E) (σ : Nat → Nat → Int32) (hS : StoodS E G shp N) (hN : 788 < N) (hO : shp 788 = LoS E 1) (hM : ModS E G shp N 781) {a : AB} {T : Nat} (hC : Ck σ a) (hG : Go T a) (hT : T ≤ 990000) (x : Int32) (y : Int32) : Pair lu Dg E N G shp σ a T yL_line wsL_line { frames := 8, cells := 1, slots := 6, locals := 183 } [.ref (G 0), .int x, .int y, .ref (G 788)] yX6_line wsX6_line { frames := 2, cells := 0, slots := 0, locals := 44 } [.ref (G 781), .int x, .int y] := by
  have hI := hG.1.1
  obtain ⟨⟨c, h1, hr, h3⟩, h5⟩ := id hC
  have hIc := hr.inv hI
  have e1 : c 1 = a.1 1 := hr.h (by omega)
  have e2 : c 2 = a.1 2 := hr.h (by omega)
  by_cases hx : Rg (tn (a.1 1)) x
  · obtain ⟨lz, hz, rfl⟩ := hx
    have hzc : lz < tn (c 1) := by rw [e1]; exact hz
    by_cases hy : Rg 5 y
    · obtain ⟨j, hj, rfl⟩ := hy
      rcases (show j = 0 ∨ j = 1 ∨ j = 2 ∨ j = 3 ∨ j = 4 by omega) with rfl | rfl | rfl | rfl | rfl
      · refine Pair.q hC (fun n _ _ => rfl) hG hT (w_line_0 lu Dg E N G shp σ hS hN hO (rd1 (c_X5_line_0_0 lu Dg E N G shp σ hS c hIc hzc) h1 ?_)) (fun σ2 h2 => CS.toq (c_X6_line_0_0 lu Dg E N G shp σ2 hM (σ2 781) a.1 (σ2 783) (σ2 784) (σ2 785) (σ2 786) (σ2 787) hI hz) rfl)
        exact (hr.L hz).1
      · refine Pair.q hC (fun n _ _ => rfl) hG hT (w_line_0 lu Dg E N G shp σ hS hN hO (rd1 (c_X5_line_0_1 lu Dg E N G shp σ hS c hIc hzc) h1 ?_)) (fun σ2 h2 => CS.toq (c_X6_line_0_1 lu Dg E N G shp σ2 hM (σ2 781) a.1 (σ2 783) (σ2 784) (σ2 785) (σ2 786) (σ2 787) hI hz) rfl)
        exact (hr.L hz).2.1
      · refine Pair.q hC (fun n _ _ => rfl) hG hT (w_line_0 lu Dg E N G shp σ hS hN hO (rd1 (c_X5_line_0_2 lu Dg E N G shp σ hS c hIc hzc) h1 ?_)) (fun σ2 h2 => CS.toq (c_X6_line_0_2 lu Dg E N G shp σ2 hM (σ2 781) a.1 (σ2 783) (σ2 784) (σ2 785) (σ2 786) (σ2 787) hI hz) rfl)
        exact (hr.L hz).2.2.1
      · refine Pair.q hC (fun n _ _ => rfl) hG hT (w_line_0 lu Dg E N G shp σ hS hN hO (rd1 (c_X5_line_0_3 lu Dg E N G shp σ hS c hIc hzc) h1 ?_)) (fun σ2 h2 => CS.toq (c_X6_line_0_3 lu Dg E N G shp σ2 hM (σ2 781) a.1 (σ2 783) (σ2 784) (σ2 785) (σ2 786) (σ2 787) hI hz) rfl)
        exact (hr.L hz).2.2.2
      · refine Pair.q hC (fun n _ _ => rfl) hG hT (w_line_0 lu Dg E N G shp σ hS hN hO (rd1 (c_X5_line_0_4 lu Dg E N G shp σ hS c hIc hzc) h1 ?_)) (fun σ2 h2 => CS.toq (c_X6_line_0_4 lu Dg E N G shp σ2 hM (σ2 781) a.1 (σ2 783) (σ2 784) (σ2 785) (σ2 786) (σ2 787) hI hz) rfl)
        rw [(hr.L hz).2.1]; exact hr.stoodE hI hz (Nat.le_refl _)
    · exact Pair.f (k := 2) (by decide) (by decide) hC hG hT (w_line_2 lu Dg E N G shp σ hS hN hO (th0 (c_X5_line_y lu hl9 Dg E N G shp σ hS c hIc hzc y hy) h1)) (fun σ2 h2 => c_X6_line_2 lu Dg E N G shp σ2 hM (σ2 781) a.1 (σ2 783) (σ2 784) (σ2 785) (σ2 786) (σ2 787) hI hz y hy)
  · exact Pair.f (k := 1) (by decide) (by decide) hC hG hT (w_line_1 lu Dg E N G shp σ hS hN hO (th0 (c_X5_line_x lu hl9 Dg E N G shp σ hS c hIc x y (by rw [e1]; exact hx)) h1)) (fun σ2 h2 => c_X6_line_1 lu Dg E N G shp σ2 hM (σ2 781) a.1 (σ2 783) (σ2 784) (σ2 785) (σ2 786) (σ2 787) hI x y hx)
theorem op_at (lu : Launch) (hl9 : lu.stackTraces = false) (Dg : va_G) (E : Nat → ClassId) (N : Nat) (G : Nat → Nat) (shp : Nat → (Nat → Int32) → va_E) (σ : Nat → Nat → Int32) (hS : StoodS E G shp N) (hN : 788 < N) (hO : shp 788 = LoS E 1) (hM : ModS E G shp N 781) {a : AB} {T : Nat} (hC : Ck σ a) (hG : Go T a) (hT : T ≤ 990000) (x : Int32) (y : Int32) : Pair lu Dg E N G shp σ a T yL_at wsL_at { frames := 8, cells := 1, slots := 6, locals := 183 } [.ref (G 0), .int x, .int y, .ref (G 788)] yX6_at wsX6_at { frames := 2, cells := 0, slots := 0, locals := 43 } [.ref (G 781), .int x, .int y] := by
  have hI := hG.1.1
  obtain ⟨⟨c, h1, hr, h3⟩, h5⟩ := id hC
  have hIc := hr.inv hI
  have e1 : c 1 = a.1 1 := hr.h (by omega)
  have e2 : c 2 = a.1 2 := hr.h (by omega)
  by_cases hx : Rg (tn (a.1 1)) x
  · obtain ⟨lz, hz, rfl⟩ := hx
    have hzc : lz < tn (c 1) := by rw [e1]; exact hz
    by_cases hy : y < 0
    · exact Pair.f (k := 2) (by decide) (by decide) hC hG hT (w_at_2 lu Dg E N G shp σ hS hN hO (th0 (c_X5_at_y lu hl9 Dg E N G shp σ hS c hIc hzc y hy) h1)) (fun σ2 h2 => c_X6_at_2 lu Dg E N G shp σ2 hM (σ2 781) a.1 (σ2 783) (σ2 784) (σ2 785) (σ2 786) (σ2 787) hI hz y hy)
    · obtain ⟨kz, hk, rfl⟩ := nI_of hy
      refine Pair.q hC (fun n _ _ => rfl) hG hT (w_at_0 lu Dg E N G shp σ hS hN hO (rd1 (c_X5_at_0 lu Dg E N G shp σ hS c hIc hzc hk) h1 ?_)) (fun σ2 h2 => CS.toq (c_X6_at_0 lu Dg E N G shp σ2 hM (σ2 781) a.1 (σ2 783) (σ2 784) (σ2 785) (σ2 786) (σ2 787) hI hz hk) rfl)
      rw [(hr.L hz).2.1]
      by_cases q : kz < tn (a.1 (13 + lz))
      · rw [ic_t q, if_pos q]; exact hr.R hz q
      · rw [ic_f q, if_neg q]
  · exact Pair.f (k := 1) (by decide) (by decide) hC hG hT (w_at_1 lu Dg E N G shp σ hS hN hO (th0 (c_X5_at_x lu hl9 Dg E N G shp σ hS c hIc x y (by rw [e1]; exact hx)) h1)) (fun σ2 h2 => c_X6_at_1 lu Dg E N G shp σ2 hM (σ2 781) a.1 (σ2 783) (σ2 784) (σ2 785) (σ2 786) (σ2 787) hI x y hx)
theorem op_person (lu : Launch) (hl9 : lu.stackTraces = false) (Dg : va_G) (E : Nat → ClassId) (N : Nat) (G : Nat → Nat) (shp : Nat → (Nat → Int32) → va_E) (σ : Nat → Nat → Int32) (hS : StoodS E G shp N) (hN : 788 < N) (hO : shp 788 = LoS E 1) (hM : ModS E G shp N 781) {a : AB} {T : Nat} (hC : Ck σ a) (hG : Go T a) (hT : T ≤ 990000) (x : Int32) (y : Int32) : Pair lu Dg E N G shp σ a T yL_person wsL_person { frames := 8, cells := 1, slots := 6, locals := 183 } [.ref (G 0), .int x, .int y, .ref (G 788)] yX6_person wsX6_person { frames := 2, cells := 0, slots := 0, locals := 45 } [.ref (G 781), .int x, .int y] := by
  have hI := hG.1.1
  obtain ⟨⟨c, h1, hr, h3⟩, h5⟩ := id hC
  have hIc := hr.inv hI
  have e1 : c 1 = a.1 1 := hr.h (by omega)
  have e2 : c 2 = a.1 2 := hr.h (by omega)
  by_cases hx : Rg (tn (a.1 2)) x
  · obtain ⟨pz, hz, rfl⟩ := hx
    have hzc : pz < tn (c 2) := by rw [e2]; exact hz
    by_cases hy : Rg 9 y
    · obtain ⟨j, hj, rfl⟩ := hy
      rcases (show j = 0 ∨ j = 1 ∨ j = 2 ∨ j = 3 ∨ j = 4 ∨ j = 5 ∨ j = 6 ∨ j = 7 ∨ j = 8 by omega) with rfl | rfl | rfl | rfl | rfl | rfl | rfl | rfl | rfl
      · refine Pair.q hC (fun n _ _ => rfl) hG hT (w_person_0 lu Dg E N G shp σ hS hN hO (rd1 (c_X5_person_0_0 lu Dg E N G shp σ hS c hIc hzc) h1 ?_)) (fun σ2 h2 => CS.toq (c_X6_person_0_0 lu Dg E N G shp σ2 hM (σ2 781) a.1 (σ2 783) (σ2 784) (σ2 785) (σ2 786) (σ2 787) hI hz) rfl)
        exact hr.P0 hz
      · refine Pair.q hC (fun n _ _ => rfl) hG hT (w_person_0 lu Dg E N G shp σ hS hN hO (rd1 (c_X5_person_0_1 lu Dg E N G shp σ hS c hIc hzc) h1 ?_)) (fun σ2 h2 => CS.toq (c_X6_person_0_1 lu Dg E N G shp σ2 hM (σ2 781) a.1 (σ2 783) (σ2 784) (σ2 785) (σ2 786) (σ2 787) hI hz) rfl)
        exact hr.P hz (by omega)
      · by_cases hsd : a.1 (58 + 10 * pz + 5) = 0
        · refine Pair.q hC (fun n _ _ => rfl) hG hT (w_person_0 lu Dg E N G shp σ hS hN hO (rd1 (c_X5_person_0_2s lu Dg E N G shp σ hS c hIc hzc (by rw [hr.P hz (by omega)]; exact hsd)) h1 ?_)) (fun σ2 h2 => CS.toq (c_X6_person_0_2s lu Dg E N G shp σ2 hM (σ2 781) a.1 (σ2 783) (σ2 784) (σ2 785) (σ2 786) (σ2 787) hI hz hsd) rfl)
          exact congrArg nI (hr.plcE hI hz hsd)
        · refine Pair.q hC (fun n _ _ => rfl) hG hT (w_person_0 lu Dg E N G shp σ hS hN hO (rd1 (c_X5_person_0_2n lu Dg E N G shp σ hS c hIc hzc (by rw [hr.P hz (by omega)]; exact hsd) h5) h1 ?_)) (fun σ2 h2 => CS.toq (c_X6_person_0_2n lu Dg E N G shp σ2 hM (σ2 781) a.1 (σ2 783) (σ2 784) (σ2 785) (σ2 786) (σ2 787) hI hz hsd) rfl)
          rfl
      · refine Pair.q hC (fun n _ _ => rfl) hG hT (w_person_0 lu Dg E N G shp σ hS hN hO (rd1 (c_X5_person_0_3 lu Dg E N G shp σ hS c hIc hzc) h1 ?_)) (fun σ2 h2 => CS.toq (c_X6_person_0_3 lu Dg E N G shp σ2 hM (σ2 781) a.1 (σ2 783) (σ2 784) (σ2 785) (σ2 786) (σ2 787) hI hz) rfl)
        exact hr.P hz (by omega)
      · refine Pair.q hC (fun n _ _ => rfl) hG hT (w_person_0 lu Dg E N G shp σ hS hN hO (rd1 (c_X5_person_0_4 lu Dg E N G shp σ hS c hIc hzc) h1 ?_)) (fun σ2 h2 => CS.toq (c_X6_person_0_4 lu Dg E N G shp σ2 hM (σ2 781) a.1 (σ2 783) (σ2 784) (σ2 785) (σ2 786) (σ2 787) hI hz) rfl)
        exact hr.P hz (by omega)
      · refine Pair.q hC (fun n _ _ => rfl) hG hT (w_person_0 lu Dg E N G shp σ hS hN hO (rd1 (c_X5_person_0_5 lu Dg E N G shp σ hS c hIc hzc) h1 ?_)) (fun σ2 h2 => CS.toq (c_X6_person_0_5 lu Dg E N G shp σ2 hM (σ2 781) a.1 (σ2 783) (σ2 784) (σ2 785) (σ2 786) (σ2 787) hI hz) rfl)
        exact hr.P hz (by omega)
      · refine Pair.q hC (fun n _ _ => rfl) hG hT (w_person_0 lu Dg E N G shp σ hS hN hO (rd1 (c_X5_person_0_6 lu Dg E N G shp σ hS c hIc hzc) h1 ?_)) (fun σ2 h2 => CS.toq (c_X6_person_0_6 lu Dg E N G shp σ2 hM (σ2 781) a.1 (σ2 783) (σ2 784) (σ2 785) (σ2 786) (σ2 787) hI hz) rfl)
        exact hr.P hz (by omega)
      · refine Pair.q hC (fun n _ _ => rfl) hG hT (w_person_0 lu Dg E N G shp σ hS hN hO (rd1 (c_X5_person_0_7 lu Dg E N G shp σ hS c hIc hzc) h1 ?_)) (fun σ2 h2 => CS.toq (c_X6_person_0_7 lu Dg E N G shp σ2 hM (σ2 781) a.1 (σ2 783) (σ2 784) (σ2 785) (σ2 786) (σ2 787) hI hz) rfl)
        exact hr.P hz (by omega)
      · refine Pair.q hC (fun n _ _ => rfl) hG hT (w_person_0 lu Dg E N G shp σ hS hN hO (rd1 (c_X5_person_0_8 lu Dg E N G shp σ hS c hIc hzc) h1 ?_)) (fun σ2 h2 => CS.toq (c_X6_person_0_8 lu Dg E N G shp σ2 hM (σ2 781) a.1 (σ2 783) (σ2 784) (σ2 785) (σ2 786) (σ2 787) hI hz) rfl)
        exact hr.P hz (by omega)
    · exact Pair.f (k := 2) (by decide) (by decide) hC hG hT (w_person_2 lu Dg E N G shp σ hS hN hO (th0 (c_X5_person_y lu hl9 Dg E N G shp σ hS c hIc hzc y hy) h1)) (fun σ2 h2 => c_X6_person_2 lu Dg E N G shp σ2 hM (σ2 781) a.1 (σ2 783) (σ2 784) (σ2 785) (σ2 786) (σ2 787) hI hz y hy)
  · exact Pair.f (k := 1) (by decide) (by decide) hC hG hT (w_person_1 lu Dg E N G shp σ hS hN hO (th0 (c_X5_person_x lu hl9 Dg E N G shp σ hS c hIc x y (by rw [e2]; exact hx)) h1)) (fun σ2 h2 => c_X6_person_1 lu Dg E N G shp σ2 hM (σ2 781) a.1 (σ2 783) (σ2 784) (σ2 785) (σ2 786) (σ2 787) hI x y hx)
theorem op_setting (lu : Launch) (hl9 : lu.stackTraces = false) (Dg : va_G) (E : Nat → ClassId) (N : Nat) (G : Nat → Nat) (shp : Nat → (Nat → Int32) → va_E) (σ : Nat → Nat → Int32) (hS : StoodS E G shp N) (hN : 788 < N) (hO : shp 788 = LoS E 1) (hM : ModS E G shp N 781) {a : AB} {T : Nat} (hC : Ck σ a) (hG : Go T a) (hT : T ≤ 990000) (x : Int32) : Pair lu Dg E N G shp σ a T yL_setting wsL_setting { frames := 8, cells := 1, slots := 6, locals := 181 } [.ref (G 0), .int x, .ref (G 788)] yX6_setting wsX6_setting { frames := 1, cells := 0, slots := 0, locals := 22 } [.ref (G 781), .int x] := by
  have hI := hG.1.1
  obtain ⟨⟨c, h1, hr, h3⟩, h5⟩ := id hC
  have hIc := hr.inv hI
  have e1 : c 1 = a.1 1 := hr.h (by omega)
  have e2 : c 2 = a.1 2 := hr.h (by omega)
  by_cases hx : Rg 4 x
  · obtain ⟨kz, hz, rfl⟩ := hx
    refine Pair.q hC (fun n _ _ => rfl) hG hT (w_setting_0 lu Dg E N G shp σ hS hN hO (rd1 (c_X5_setting_0 lu Dg E N G shp σ hS c hz) h1 ?_)) (fun σ2 h2 => CS.toq (c_X6_setting_0 lu Dg E N G shp σ2 hM (σ2 781) a.1 (σ2 783) (σ2 784) (σ2 785) (σ2 786) (σ2 787) hz) rfl)
    exact hr.h (by omega)
  · exact Pair.f (k := 1) (by decide) (by decide) hC hG hT (w_setting_1 lu Dg E N G shp σ hS hN hO (th0 (c_X5_setting_x lu hl9 Dg E N G shp σ hS c x hx) h1)) (fun σ2 h2 => c_X6_setting_1 lu Dg E N G shp σ2 hM (σ2 781) a.1 (σ2 783) (σ2 784) (σ2 785) (σ2 786) (σ2 787) x hx)
