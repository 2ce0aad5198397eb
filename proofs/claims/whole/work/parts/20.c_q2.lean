/-! FORESIGHT, on both objects -/
theorem op_servedIn (lu : Launch) (hl9 : lu.stackTraces = false) (Dg : va_G) (E : Nat → ClassId) (N : Nat) (G : Nat → Nat) (shp : Nat → (Nat → Int32) → va_E) (σ : Nat → Nat → Int32) (hS : StoodS E G shp N) (hN : 788 < N) (hO : shp 788 = LoS E 1) (hM : ModS E G shp N 781) {a : AB} {T : Nat} (hC : Ck σ a) (hG : Go T a) (hT : T ≤ 990000) (x : Int32) : Pair lu Dg E N G shp σ a T yL_servedIn wsL_servedIn { frames := 9, cells := 1, slots := 6, locals := 203 } [.ref (G 0), .int x, .ref (G 788)] yX6_servedIn wsX6_servedIn { frames := 5, cells := 0, slots := 0, locals := 109 } [.ref (G 781), .int x] := by
  have hI := hG.1.1
  obtain ⟨⟨c, h1, hr, h3⟩, h5⟩ := id hC
  have hIc := hr.inv hI
  have e1 : c 1 = a.1 1 := hr.h (by omega)
  have e2 : c 2 = a.1 2 := hr.h (by omega)
  by_cases hx : Rg (tn (a.1 2)) x
  · obtain ⟨pz, hz, rfl⟩ := hx
    have hzc : pz < tn (c 2) := by rw [e2]; exact hz
    have h30 := hI.np30
    have ep : tn (nI pz) = pz := tn_nI (by omega)
    have e5 : c (58 + 10 * pz + 5) = a.1 (58 + 10 * pz + 5) := hr.P hz (by omega)
    by_cases hsd : a.1 (58 + 10 * pz + 5) = 0
    · have hf : goFl a.1 (nI pz) = 0 := goFl_0.mpr ⟨⟨pz, hz, rfl⟩, by rw [ep]; exact hsd⟩
      refine Pair.q hC (fun n _ _ => rfl) hG hT (w_servedIn_0 lu Dg E N G shp σ hS hN hO (rd1 (c_X5_servedIn_0 lu Dg E N G shp σ hS c hIc hzc (e5.trans hsd)) h1 ?_)) (fun σ2 h2 => c_X6_servedIn_0 lu Dg E N G shp σ2 hM (σ2 781) a.1 (σ2 783) (σ2 784) (σ2 785) (σ2 786) (σ2 787) hI (by omega) h2.1.1 (by omega) hf)
      exact congrArg nI (hr.waitE hI hz hsd)
    · exact Pair.f (k := 2) (by decide) (by decide) hC hG hT (w_servedIn_2 lu Dg E N G shp σ hS hN hO (th0 (c_X5_servedIn_y lu hl9 Dg E N G shp σ hS c hIc hzc (by rw [e5]; exact hsd)) h1)) (fun σ2 h2 => c_X6_servedIn_n lu Dg E N G shp σ2 hM (σ2 781) a.1 (σ2 783) (σ2 784) (σ2 785) (σ2 786) (σ2 787) hI (nI pz) (k := 2) (goFl_2 ⟨pz, hz, rfl⟩ (by rw [ep]; exact hsd)) (by decide) (by decide))
  · exact Pair.f (k := 1) (by decide) (by decide) hC hG hT (w_servedIn_1 lu Dg E N G shp σ hS hN hO (th0 (c_X5_servedIn_x lu hl9 Dg E N G shp σ hS c hIc x (by rw [e2]; exact hx)) h1)) (fun σ2 h2 => c_X6_servedIn_n lu Dg E N G shp σ2 hM (σ2 781) a.1 (σ2 783) (σ2 784) (σ2 785) (σ2 786) (σ2 787) hI x (k := 1) (goFl_1 hx) (by decide) (by decide))
theorem op_willPay (lu : Launch) (hl9 : lu.stackTraces = false) (Dg : va_G) (E : Nat → ClassId) (N : Nat) (G : Nat → Nat) (shp : Nat → (Nat → Int32) → va_E) (σ : Nat → Nat → Int32) (hS : StoodS E G shp N) (hN : 788 < N) (hO : shp 788 = LoS E 1) (hM : ModS E G shp N 781) {a : AB} {T : Nat} (hC : Ck σ a) (hG : Go T a) (hT : T ≤ 990000) (x : Int32) : Pair lu Dg E N G shp σ a T yL_willPay wsL_willPay { frames := 7, cells := 1, slots := 6, locals := 161 } [.ref (G 0), .int x, .ref (G 788)] yX6_willPay wsX6_willPay { frames := 5, cells := 0, slots := 0, locals := 109 } [.ref (G 781), .int x] := by
  have hI := hG.1.1
  obtain ⟨⟨c, h1, hr, h3⟩, h5⟩ := id hC
  have hIc := hr.inv hI
  have e1 : c 1 = a.1 1 := hr.h (by omega)
  have e2 : c 2 = a.1 2 := hr.h (by omega)
  by_cases hx : nI 1 ≤ x ∧ x ≤ nI 999
  · obtain ⟨kz, k1, k2, rfl⟩ := rg_ab hx (by decide) (by decide)
    refine Pair.q hC (fun n _ _ => rfl) hG hT (w_willPay_0 lu Dg E N G shp σ hS hN hO (rd1 (c_X5_willPay_0 lu Dg E N G shp σ hS c hIc k1 k2) h1 ?_)) (fun σ2 h2 => c_X6_willPay_0 lu Dg E N G shp σ2 hM (σ2 781) a.1 (σ2 783) (σ2 784) (σ2 785) (σ2 786) (σ2 787) hI (by omega) h2.1.1 k1 k2)
    rw [hr.willE hI, hI.house (by omega), sub_self_add]
  · exact Pair.f (k := 1) (by decide) (by decide) hC hG hT (w_willPay_1 lu Dg E N G shp σ hS hN hO (th0 (c_X5_willPay_x lu hl9 Dg E N G shp σ hS c x hx) h1)) (fun σ2 h2 => c_X6_willPay_1 lu Dg E N G shp σ2 hM (σ2 781) a.1 (σ2 783) (σ2 784) (σ2 785) (σ2 786) (σ2 787) x hx)
theorem op_gain (lu : Launch) (hl9 : lu.stackTraces = false) (Dg : va_G) (E : Nat → ClassId) (N : Nat) (G : Nat → Nat) (shp : Nat → (Nat → Int32) → va_E) (σ : Nat → Nat → Int32) (hS : StoodS E G shp N) (hN : 788 < N) (hO : shp 788 = LoS E 1) (hM : ModS E G shp N 781) {a : AB} {T : Nat} (hC : Ck σ a) (hG : Go T a) (hT : T ≤ 990000) (x : Int32) (y : Int32) : Pair lu Dg E N G shp σ a T yL_gain wsL_gain { frames := 9, cells := 1, slots := 6, locals := 205 } [.ref (G 0), .int x, .int y, .ref (G 788)] yX6_gain wsX6_gain { frames := 6, cells := 0, slots := 0, locals := 134 } [.ref (G 781), .int x, .int y] := by
  have hI := hG.1.1
  obtain ⟨⟨c, h1, hr, h3⟩, h5⟩ := id hC
  have hIc := hr.inv hI
  have e1 : c 1 = a.1 1 := hr.h (by omega)
  have e2 : c 2 = a.1 2 := hr.h (by omega)
  have h30 := hI.np30
  by_cases hx : Rg (tn (a.1 2)) x
  · by_cases hy : Rg (tn (a.1 2)) y
    · obtain ⟨pz, hz, rfl⟩ := hx
      obtain ⟨qz, hw, rfl⟩ := hy
      have hzc : pz < tn (c 2) := by rw [e2]; exact hz
      have hwc : qz < tn (c 2) := by rw [e2]; exact hw
      have ep : tn (nI pz) = pz := tn_nI (by omega)
      have eq : tn (nI qz) = qz := tn_nI (by omega)
      by_cases hm : MayX a.1 pz qz
      · have hf : exchFl a.1 (nI pz) (nI qz) = 0 := exchFl_0.mpr ⟨⟨⟨pz, hz, rfl⟩, ⟨qz, hw, rfl⟩⟩, by rw [ep, eq]; exact hm⟩
        refine Pair.q hC (fun n _ _ => rfl) hG hT (w_gain_0 lu Dg E N G shp σ hS hN hO (rd1 (c_X5_gain_0 lu Dg E N G shp σ hS c hIc hzc hwc ((hr.mayX hI hz hw).mpr hm)) h1 ?_)) (fun σ2 h2 => c_X6_gain_0 lu Dg E N G shp σ2 hM (σ2 781) a.1 (σ2 783) (σ2 784) (σ2 785) (σ2 786) (σ2 787) hI (by omega) h2.1.1 (by omega) (by omega) hf)
        exact hr.gainE hI hz hw hm
      · exact Pair.f (k := 2) (by decide) (by decide) hC hG hT (w_gain_2 lu Dg E N G shp σ hS hN hO (th0 (c_X5_gain_z lu hl9 Dg E N G shp σ hS c hIc hzc hwc (fun z => hm ((hr.mayX hI hz hw).mp z))) h1)) (fun σ2 h2 => c_X6_gain_n lu Dg E N G shp σ2 hM (σ2 781) a.1 (σ2 783) (σ2 784) (σ2 785) (σ2 786) (σ2 787) hI (nI pz) (nI qz) (k := 2) (exchFl_2 ⟨pz, hz, rfl⟩ ⟨qz, hw, rfl⟩ (by rw [ep, eq]; exact hm)) (by decide) (by decide))
    · obtain ⟨pz, hz, rfl⟩ := hx
      exact Pair.f (k := 1) (by decide) (by decide) hC hG hT (w_gain_1 lu Dg E N G shp σ hS hN hO (th0 (c_X5_gain_y lu hl9 Dg E N G shp σ hS c hIc (by rw [e2]; exact hz) y (by rw [e2]; exact hy)) h1)) (fun σ2 h2 => c_X6_gain_n lu Dg E N G shp σ2 hM (σ2 781) a.1 (σ2 783) (σ2 784) (σ2 785) (σ2 786) (σ2 787) hI (nI pz) y (k := 1) (exchFl_1 (Or.inr hy)) (by decide) (by decide))
  · exact Pair.f (k := 1) (by decide) (by decide) hC hG hT (w_gain_1 lu Dg E N G shp σ hS hN hO (th0 (c_X5_gain_x lu hl9 Dg E N G shp σ hS c hIc x y (by rw [e2]; exact hx)) h1)) (fun σ2 h2 => c_X6_gain_n lu Dg E N G shp σ2 hM (σ2 781) a.1 (σ2 783) (σ2 784) (σ2 785) (σ2 786) (σ2 787) hI x y (k := 1) (exchFl_1 (Or.inl hx)) (by decide) (by decide))
theorem op_partner (lu : Launch) (hl9 : lu.stackTraces = false) (Dg : va_G) (E : Nat → ClassId) (N : Nat) (G : Nat → Nat) (shp : Nat → (Nat → Int32) → va_E) (σ : Nat → Nat → Int32) (hS : StoodS E G shp N) (hN : 788 < N) (hO : shp 788 = LoS E 1) (hM : ModS E G shp N 781) {a : AB} {T : Nat} (hC : Ck σ a) (hG : Go T a) (hT : T ≤ 990000) (x : Int32) : Pair lu Dg E N G shp σ a T yL_partner wsL_partner { frames := 8, cells := 1, slots := 6, locals := 182 } [.ref (G 0), .int x, .ref (G 788)] yX6_partner wsX6_partner { frames := 6, cells := 0, slots := 0, locals := 134 } [.ref (G 781), .int x] := by
  have hI := hG.1.1
  obtain ⟨⟨c, h1, hr, h3⟩, h5⟩ := id hC
  have hIc := hr.inv hI
  have e1 : c 1 = a.1 1 := hr.h (by omega)
  have e2 : c 2 = a.1 2 := hr.h (by omega)
  by_cases hx : Rg (tn (a.1 2)) x
  · obtain ⟨pz, hz, rfl⟩ := hx
    refine Pair.q hC (fun n _ _ => rfl) hG hT (w_partner_0 lu Dg E N G shp σ hS hN hO (rd1 (c_X5_partner_0 lu Dg E N G shp σ hS c hIc (by rw [e2]; exact hz)) h1 ?_)) (fun σ2 h2 => c_X6_partner_0 lu Dg E N G shp σ2 hM (σ2 781) a.1 (σ2 783) (σ2 784) (σ2 785) (σ2 786) (σ2 787) hI (by omega) h2.1.1 hz)
    rw [e2, hr.partE hI hz (Nat.le_refl _)]
  · exact Pair.f (k := 1) (by decide) (by decide) hC hG hT (w_partner_1 lu Dg E N G shp σ hS hN hO (th0 (c_X5_partner_x lu hl9 Dg E N G shp σ hS c hIc x (by rw [e2]; exact hx)) h1)) (fun σ2 h2 => c_X6_partner_1 lu Dg E N G shp σ2 hM (σ2 781) a.1 (σ2 783) (σ2 784) (σ2 785) (σ2 786) (σ2 787) hI x hx)
theorem op_saved (lu : Launch) (hl9 : lu.stackTraces = false) (Dg : va_G) (E : Nat → ClassId) (N : Nat) (G : Nat → Nat) (shp : Nat → (Nat → Int32) → va_E) (σ : Nat → Nat → Int32) (hS : StoodS E G shp N) (hN : 788 < N) (hO : shp 788 = LoS E 1) (hM : ModS E G shp N 781) {a : AB} {T : Nat} (hC : Ck σ a) (hG : Go T a) (hT : T ≤ 990000) (x : Int32) (y : Int32) : Pair lu Dg E N G shp σ a T yL_saved wsL_saved { frames := 9, cells := 1, slots := 6, locals := 205 } [.ref (G 0), .int x, .int y, .ref (G 788)] yX6_saved wsX6_saved { frames := 6, cells := 0, slots := 0, locals := 131 } [.ref (G 781), .int x, .int y] := by
  have hI := hG.1.1
  obtain ⟨⟨c, h1, hr, h3⟩, h5⟩ := id hC
  have hIc := hr.inv hI
  have e1 : c 1 = a.1 1 := hr.h (by omega)
  have e2 : c 2 = a.1 2 := hr.h (by omega)
  have h3l := hI.nl3
  by_cases hx : Rg (tn (a.1 1)) x
  · by_cases hy : Rg (tn (a.1 1)) y
    · obtain ⟨yz, hz, rfl⟩ := hx
      obtain ⟨oz, hw, rfl⟩ := hy
      have hzc : yz < tn (c 1) := by rw [e1]; exact hz
      have hwc : oz < tn (c 1) := by rw [e1]; exact hw
      have el : tn (nI yz) = yz := tn_nI (by omega)
      have eo : tn (nI oz) = oz := tn_nI (by omega)
      have ef : mergeFl c (nI yz) (nI oz) = mergeFl a.1 (nI yz) (nI oz) := hr.mergeE hI
      by_cases hq : yz = oz
      · exact Pair.f (k := 2) (by decide) (by decide) hC hG hT (w_saved_2 lu Dg E N G shp σ hS hN hO (th0 (c_X5_saved_z lu hl9 Dg E N G shp σ hS c hIc hzc hwc hq) h1)) (fun σ2 h2 => c_X6_saved_n lu Dg E N G shp σ2 hM (σ2 781) a.1 (σ2 783) (σ2 784) (σ2 785) (σ2 786) (σ2 787) hI (nI yz) (nI oz) (k := 2) (mergeFl_2 ⟨yz, hz, rfl⟩ ⟨oz, hw, rfl⟩ (congrArg nI hq)) (by decide) (by decide))
      · have hnq : ¬ nI yz = nI oz := fun z => hq ((nI_eq (by omega) (by omega)).mp z)
        by_cases hf : mergeFl a.1 (nI yz) (nI oz) = 0
        · have hab := (mergeFl_0.mp hf).2.2
          rw [el, eo] at hab
          refine Pair.q hC (fun n _ _ => rfl) hG hT (w_saved_0 lu Dg E N G shp σ hS hN hO (rd1 (c_X5_saved_0 lu Dg E N G shp σ hS c hIc hzc hwc (ef.trans hf)) h1 ?_)) (fun σ2 h2 => c_X6_saved_0 lu Dg E N G shp σ2 hM (σ2 781) a.1 (σ2 783) (σ2 784) (σ2 785) (σ2 786) (σ2 787) hI (by omega) h2.1.1 (by omega) (by omega) hf)
          exact (hr.savedE hz hw).trans (sub_of (hI.saved hz hw hq hab)).symm
        · exact Pair.f (k := 3) (by decide) (by decide) hC hG hT (w_saved_3 lu Dg E N G shp σ hS hN hO (th0 (c_X5_saved_w lu hl9 Dg E N G shp σ hS c hIc hzc hwc hq (by rw [ef]; exact hf)) h1)) (fun σ2 h2 => c_X6_saved_n lu Dg E N G shp σ2 hM (σ2 781) a.1 (σ2 783) (σ2 784) (σ2 785) (σ2 786) (σ2 787) hI (nI yz) (nI oz) (k := 3) (mergeFl_3 ⟨yz, hz, rfl⟩ ⟨oz, hw, rfl⟩ hnq hf) (by decide) (by decide))
    · obtain ⟨yz, hz, rfl⟩ := hx
      exact Pair.f (k := 1) (by decide) (by decide) hC hG hT (w_saved_1 lu Dg E N G shp σ hS hN hO (th0 (c_X5_saved_y lu hl9 Dg E N G shp σ hS c hIc (by rw [e1]; exact hz) y (by rw [e1]; exact hy)) h1)) (fun σ2 h2 => c_X6_saved_n lu Dg E N G shp σ2 hM (σ2 781) a.1 (σ2 783) (σ2 784) (σ2 785) (σ2 786) (σ2 787) hI (nI yz) y (k := 1) (mergeFl_1 (Or.inr hy)) (by decide) (by decide))
  · exact Pair.f (k := 1) (by decide) (by decide) hC hG hT (w_saved_1 lu Dg E N G shp σ hS hN hO (th0 (c_X5_saved_x lu hl9 Dg E N G shp σ hS c hIc x y (by rw [e1]; exact hx)) h1)) (fun σ2 h2 => c_X6_saved_n lu Dg E N G shp σ2 hM (σ2 781) a.1 (σ2 783) (σ2 784) (σ2 785) (σ2 786) (σ2 787) hI x y (k := 1) (mergeFl_1 (Or.inl hx)) (by decide) (by decide))
