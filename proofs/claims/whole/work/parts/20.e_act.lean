/-! THE ACTIONS, on both objects -/
theorem act_0 {f : Nat → Int32} {z : Int32} : upd (upd f 0 (nI 0)) 5 z 0 = nI 0 := by rw [upd_ap, if_neg (by omega), upd_ap, if_pos rfl]
theorem act_3 {f : Nat → Int32} {z y : Int32} : ∀ i, i = 3 ∨ i = 9 → upd (upd f 0 y) 5 z i = f i := fun i hi => by rw [upd_ap, if_neg (by omega), upd_ap, if_neg (by omega)]
theorem act_5 {f : Nat → Int32} {z : Int32} : upd f 5 z 5 = z := by rw [upd_ap, if_pos rfl]
theorem op_open (lu : Launch) (hl9 : lu.stackTraces = false) (Dg : va_G) (E : Nat → ClassId) (N : Nat) (G : Nat → Nat) (shp : Nat → (Nat → Int32) → va_E) (σ : Nat → Nat → Int32) (hS : StoodS E G shp N) (hN : 788 < N) (hO : shp 788 = LoS E 1) (hM : ModS E G shp N 781) {a : AB} {T : Nat} (hC : Ck σ a) (hG : Go T a) (hT : T ≤ 990000) (x : Int32) : Pair lu Dg E N G shp σ a T yL_open wsL_open { frames := 7, cells := 1, slots := 6, locals := 161 } [.ref (G 0), .int x, .ref (G 788)] yX6_open wsX6_open { frames := 1, cells := 0, slots := 0, locals := 22 } [.ref (G 781), .int x] := by
  obtain ⟨s, m, h, sl, fl, t, lz⟩ := a
  have hg : G1 T s := hG.1
  have hI : Inv T s := hg.1
  have h14 : m ≤ 14 := hG.2.2.2.1
  obtain ⟨⟨c, hX⟩, h5⟩ := id hC
  obtain ⟨og, hH⟩ := hX.2.2.2.1
  have h1 := hX.1
  have hr : Rel c s := hX.2.1
  have hIc := hr.inv hI
  have e1 : c 1 = s 1 := hr.h (by omega)
  have e2 : c 2 = s 2 := hr.h (by omega)
  by_cases hx : nI 1 ≤ x ∧ x ≤ nI 20
  · obtain ⟨kz, k1, k2, rfl⟩ := rg_ab hx (by decide) (by decide)
    by_cases h3 : tn (s 1) < 3
    · refine Pair.act (a' := (upd (upd s (10 + tn (s 1)) (nI kz)) 1 (nI (tn (s 1) + 1)), min (m + 1) 14, pushH h m s, sl, fl, t, lz)) (Ck.act h5 hX hH (hr.addLine hg.2.1 h3 (nI kz))) act_far (hG.act (by omega) (by omega) ((hg.addLine h3 k1 k2).mono (by omega) (by omega))) (w_open_0 lu Dg E N G shp σ hS hN hO (rd0 (c_X5_open_0 lu Dg E N G shp σ hS c hIc k1 k2 (by rw [e1]; exact h3) hH.ok) h1 ?_)) (fun σ2 h2 => ⟨_, _, _, _, _, _, _, c_X6_open_0 lu Dg E N G shp σ2 hM (σ2 781) s (σ2 783) (σ2 784) (σ2 785) (σ2 786) (σ2 787) (nI kz) hx hI.nl h3 h2.1.2.1 h14, act_0, h2.act h14 act_3 act_5⟩)
      rw [e1]
    · exact Pair.f (k := 2) (by decide) (by decide) hC hG hT (w_open_2 lu Dg E N G shp σ hS hN hO (th0 (c_X5_open_y lu hl9 Dg E N G shp σ hS c hIc k1 k2 (by rw [e1]; omega)) h1)) (fun σ2 h2 => c_X6_open_2 lu Dg E N G shp σ2 hM (σ2 781) s (σ2 783) (σ2 784) (σ2 785) (σ2 786) (σ2 787) (nI kz) hx (by have q := hI.nl3; rw [hI.nl, show tn (s 1) = 3 by omega]))
  · exact Pair.f (k := 1) (by decide) (by decide) hC hG hT (w_open_1 lu Dg E N G shp σ hS hN hO (th0 (c_X5_open_x lu hl9 Dg E N G shp σ hS c x hx) h1)) (fun σ2 h2 => c_X6_open_1 lu Dg E N G shp σ2 hM (σ2 781) s (σ2 783) (σ2 784) (σ2 785) (σ2 786) (σ2 787) x hx)
theorem op_come (lu : Launch) (hl9 : lu.stackTraces = false) (Dg : va_G) (E : Nat → ClassId) (N : Nat) (G : Nat → Nat) (shp : Nat → (Nat → Int32) → va_E) (σ : Nat → Nat → Int32) (hS : StoodS E G shp N) (hN : 788 < N) (hO : shp 788 = LoS E 1) (hM : ModS E G shp N 781) {a : AB} {T : Nat} (hC : Ck σ a) (hG : Go T a) (hT : T ≤ 990000) (x : Int32) (y : Int32) : Pair lu Dg E N G shp σ a T yL_come wsL_come { frames := 8, cells := 1, slots := 6, locals := 183 } [.ref (G 0), .int x, .int y, .ref (G 788)] yX6_come wsX6_come { frames := 3, cells := 0, slots := 0, locals := 65 } [.ref (G 781), .int x, .int y] := by
  obtain ⟨s, m, h, sl, fl, t, lz⟩ := a
  have hg : G1 T s := hG.1
  have hI : Inv T s := hg.1
  have h14 : m ≤ 14 := hG.2.2.2.1
  obtain ⟨⟨c, hX⟩, h5⟩ := id hC
  obtain ⟨og, hH⟩ := hX.2.2.2.1
  have h1 := hX.1
  have hr : Rel c s := hX.2.1
  have hIc := hr.inv hI
  have e1 : c 1 = s 1 := hr.h (by omega)
  have e2 : c 2 = s 2 := hr.h (by omega)
  by_cases hx : Rg (tn (s 1)) x
  · by_cases hy : Rg 3 y
    · obtain ⟨yz, hz, rfl⟩ := hx
      obtain ⟨kz, hk, rfl⟩ := hy
      have h3l := hI.nl3
      have hzc : yz < tn (c 1) := by rw [e1]; exact hz
      by_cases hf : comeFl s (nI yz) (nI kz) = 0
      · obtain ⟨-, k2, k3⟩ := come_ok hI (by omega) hf
        refine Pair.act (a' := (comesS s yz kz, min (m + 1) 14, pushH h m s, sl, fl, t, lz)) (Ck.act h5 hX hH (hr.comes hI hz k2 k3)) act_far (hG.act (by omega) (by omega) ((hg.comes hz k2 k3).mono (by omega) (by omega))) (w_come_0 lu Dg E N G shp σ hS hN hO (rd0 (c_X5_come_0 lu Dg E N G shp σ hS c hIc hzc hk ((hr.come hI).trans hf) hH.ok) h1 ?_)) (fun σ2 h2 => ⟨_, _, _, _, _, _, _, c_X6_come_0 lu Dg E N G shp σ2 hM (σ2 781) s (σ2 783) (σ2 784) (σ2 785) (σ2 786) (σ2 787) hI h2.1.2.1 h14 (by omega) hf, act_0, h2.act h14 act_3 act_5⟩)
        rw [e2]
      · exact Pair.f (k := 3) (by decide) (by decide) hC hG hT (w_come_3 lu Dg E N G shp σ hS hN hO (th0 (c_X5_come_z lu hl9 Dg E N G shp σ hS c hIc hzc hk (by rw [hr.come hI]; exact hf)) h1)) (fun σ2 h2 => c_X6_come_n lu Dg E N G shp σ2 hM (σ2 781) s (σ2 783) (σ2 784) (σ2 785) (σ2 786) (σ2 787) hI (nI yz) (nI kz) (k := 3) (comeFl_3 ⟨yz, hz, rfl⟩ ⟨kz, hk, rfl⟩ hf) (by decide) (by decide))
    · obtain ⟨yz, hz, rfl⟩ := hx
      exact Pair.f (k := 2) (by decide) (by decide) hC hG hT (w_come_2 lu Dg E N G shp σ hS hN hO (th0 (c_X5_come_y lu hl9 Dg E N G shp σ hS c hIc (by rw [e1]; exact hz) y hy) h1)) (fun σ2 h2 => c_X6_come_n lu Dg E N G shp σ2 hM (σ2 781) s (σ2 783) (σ2 784) (σ2 785) (σ2 786) (σ2 787) hI (nI yz) y (k := 2) (comeFl_2 ⟨yz, hz, rfl⟩ hy) (by decide) (by decide))
  · exact Pair.f (k := 1) (by decide) (by decide) hC hG hT (w_come_1 lu Dg E N G shp σ hS hN hO (th0 (c_X5_come_x lu hl9 Dg E N G shp σ hS c hIc x y (by rw [e1]; exact hx)) h1)) (fun σ2 h2 => c_X6_come_n lu Dg E N G shp σ2 hM (σ2 781) s (σ2 783) (σ2 784) (σ2 785) (σ2 786) (σ2 787) hI x y (k := 1) (comeFl_1 hx) (by decide) (by decide))
theorem op_go (lu : Launch) (hl9 : lu.stackTraces = false) (Dg : va_G) (E : Nat → ClassId) (N : Nat) (G : Nat → Nat) (shp : Nat → (Nat → Int32) → va_E) (σ : Nat → Nat → Int32) (hS : StoodS E G shp N) (hN : 788 < N) (hO : shp 788 = LoS E 1) (hM : ModS E G shp N 781) {a : AB} {T : Nat} (hC : Ck σ a) (hG : Go T a) (hT : T ≤ 990000) (x : Int32) : Pair lu Dg E N G shp σ a T yL_go wsL_go { frames := 9, cells := 1, slots := 6, locals := 203 } [.ref (G 0), .int x, .ref (G 788)] yX6_go wsX6_go { frames := 3, cells := 0, slots := 0, locals := 67 } [.ref (G 781), .int x] := by
  obtain ⟨s, m, h, sl, fl, t, lz⟩ := a
  have hg : G1 T s := hG.1
  have hI : Inv T s := hg.1
  have h14 : m ≤ 14 := hG.2.2.2.1
  obtain ⟨⟨c, hX⟩, h5⟩ := id hC
  obtain ⟨og, hH⟩ := hX.2.2.2.1
  have h1 := hX.1
  have hr : Rel c s := hX.2.1
  have hIc := hr.inv hI
  have e1 : c 1 = s 1 := hr.h (by omega)
  have e2 : c 2 = s 2 := hr.h (by omega)
  have h30 := hI.np30
  by_cases hx : Rg (tn (s 2)) x
  · obtain ⟨pz, hz, rfl⟩ := hx
    have hzc : pz < tn (c 2) := by rw [e2]; exact hz
    have ep : tn (nI pz) = pz := tn_nI (by omega)
    by_cases hq : s (58 + 10 * pz + 5) = 0
    · have hf : goFl s (nI pz) = 0 := goFl_0.mpr ⟨⟨pz, hz, rfl⟩, by rw [ep]; exact hq⟩
      refine Pair.act (a' := (goesS s pz, min (m + 1) 14, pushH h m s, sl, fl, t, lz)) (Ck.act h5 hX hH (hr.goes hI hz hq)) act_far (hG.act (by omega) (by omega) ((hg.goes hz hq).mono (by omega) (by omega))) (w_go_0 lu Dg E N G shp σ hS hN hO (rd0 (c_X5_go_0 lu Dg E N G shp σ hS c hIc hzc ((hr.P hz (by omega)).trans hq) hH.ok) h1 ?_)) (fun σ2 h2 => ⟨_, _, _, _, _, _, _, c_X6_go_0 lu Dg E N G shp σ2 hM (σ2 781) s (σ2 783) (σ2 784) (σ2 785) (σ2 786) (σ2 787) hI h2.1.2.1 h14 (by omega) hf, act_0, h2.act h14 act_3 act_5⟩)
      exact hr.P hz (by omega)
    · exact Pair.f (k := 2) (by decide) (by decide) hC hG hT (w_go_2 lu Dg E N G shp σ hS hN hO (th0 (c_X5_go_y lu hl9 Dg E N G shp σ hS c hIc hzc (by rw [hr.P hz (by omega)]; exact hq)) h1)) (fun σ2 h2 => c_X6_go_n lu Dg E N G shp σ2 hM (σ2 781) s (σ2 783) (σ2 784) (σ2 785) (σ2 786) (σ2 787) hI (nI pz) (k := 2) (goFl_2 ⟨pz, hz, rfl⟩ (by rw [ep]; exact hq)) (by decide) (by decide))
  · exact Pair.f (k := 1) (by decide) (by decide) hC hG hT (w_go_1 lu Dg E N G shp σ hS hN hO (th0 (c_X5_go_x lu hl9 Dg E N G shp σ hS c hIc x (by rw [e2]; exact hx)) h1)) (fun σ2 h2 => c_X6_go_n lu Dg E N G shp σ2 hM (σ2 781) s (σ2 783) (σ2 784) (σ2 785) (σ2 786) (σ2 787) hI x (k := 1) (goFl_1 hx) (by decide) (by decide))
theorem op_jump (lu : Launch) (hl9 : lu.stackTraces = false) (Dg : va_G) (E : Nat → ClassId) (N : Nat) (G : Nat → Nat) (shp : Nat → (Nat → Int32) → va_E) (σ : Nat → Nat → Int32) (hS : StoodS E G shp N) (hN : 788 < N) (hO : shp 788 = LoS E 1) (hM : ModS E G shp N 781) {a : AB} {T : Nat} (hC : Ck σ a) (hG : Go T a) (hT : T ≤ 990000) (x : Int32) : Pair lu Dg E N G shp σ a T yL_jump wsL_jump { frames := 8, cells := 1, slots := 6, locals := 182 } [.ref (G 0), .int x, .ref (G 788)] yX6_jump wsX6_jump { frames := 3, cells := 0, slots := 0, locals := 71 } [.ref (G 781), .int x] := by
  obtain ⟨s, m, h, sl, fl, t, lz⟩ := a
  have hg : G1 T s := hG.1
  have hI : Inv T s := hg.1
  have h14 : m ≤ 14 := hG.2.2.2.1
  obtain ⟨⟨c, hX⟩, h5⟩ := id hC
  obtain ⟨og, hH⟩ := hX.2.2.2.1
  have h1 := hX.1
  have hr : Rel c s := hX.2.1
  have hIc := hr.inv hI
  have e1 : c 1 = s 1 := hr.h (by omega)
  have e2 : c 2 = s 2 := hr.h (by omega)
  have h30 := hI.np30
  by_cases hx : Rg (tn (s 2)) x
  · obtain ⟨pz, hz, rfl⟩ := hx
    have hzc : pz < tn (c 2) := by rw [e2]; exact hz
    have ep : tn (nI pz) = pz := tn_nI (by omega)
    by_cases hq : MayJ s pz
    · have hf : jumpFl s (nI pz) = 0 := jumpFl_0.mpr ⟨⟨pz, hz, rfl⟩, by rw [ep]; exact hq⟩
      refine Pair.act (a' := (jumpsS s pz, min (m + 1) 14, pushH h m s, sl, fl, t, lz)) (Ck.act h5 hX hH (hr.jumps hI hz hq.1)) act_far (hG.act (by omega) (by omega) ((hg.jumps hz hq.1).mono (by omega) (by omega))) (w_jump_0 lu Dg E N G shp σ hS hN hO (rd0 (c_X5_jump_0 lu Dg E N G shp σ hS c hIc hzc ((hr.mayJ hI hz).mpr hq) hH.ok) h1 ?_)) (fun σ2 h2 => ⟨_, _, _, _, _, _, _, c_X6_jump_0 lu Dg E N G shp σ2 hM (σ2 781) s (σ2 783) (σ2 784) (σ2 785) (σ2 786) (σ2 787) hI h2.1.2.1 h14 (by omega) hf, act_0, h2.act h14 act_3 act_5⟩)
      unfold jsteps; rw [hr.plcE hI hz hq.1, hr.h (i := 9) (by omega)]
    · exact Pair.f (k := 2) (by decide) (by decide) hC hG hT (w_jump_2 lu Dg E N G shp σ hS hN hO (th0 (c_X5_jump_y lu hl9 Dg E N G shp σ hS c hIc hzc (fun z => hq ((hr.mayJ hI hz).mp z))) h1)) (fun σ2 h2 => c_X6_jump_n lu Dg E N G shp σ2 hM (σ2 781) s (σ2 783) (σ2 784) (σ2 785) (σ2 786) (σ2 787) hI (nI pz) (k := 2) (jumpFl_2 ⟨pz, hz, rfl⟩ (by rw [ep]; exact hq)) (by decide) (by decide))
  · exact Pair.f (k := 1) (by decide) (by decide) hC hG hT (w_jump_1 lu Dg E N G shp σ hS hN hO (th0 (c_X5_jump_x lu hl9 Dg E N G shp σ hS c hIc x (by rw [e2]; exact hx)) h1)) (fun σ2 h2 => c_X6_jump_n lu Dg E N G shp σ2 hM (σ2 781) s (σ2 783) (σ2 784) (σ2 785) (σ2 786) (σ2 787) hI x (k := 1) (jumpFl_1 hx) (by decide) (by decide))
theorem op_exchange (lu : Launch) (hl9 : lu.stackTraces = false) (Dg : va_G) (E : Nat → ClassId) (N : Nat) (G : Nat → Nat) (shp : Nat → (Nat → Int32) → va_E) (σ : Nat → Nat → Int32) (hS : StoodS E G shp N) (hN : 788 < N) (hO : shp 788 = LoS E 1) (hM : ModS E G shp N 781) {a : AB} {T : Nat} (hC : Ck σ a) (hG : Go T a) (hT : T ≤ 990000) (x : Int32) (y : Int32) : Pair lu Dg E N G shp σ a T yL_exchange wsL_exchange { frames := 9, cells := 1, slots := 6, locals := 205 } [.ref (G 0), .int x, .int y, .ref (G 788)] yX6_exchange wsX6_exchange { frames := 3, cells := 0, slots := 0, locals := 71 } [.ref (G 781), .int x, .int y] := by
  obtain ⟨s, m, h, sl, fl, t, lz⟩ := a
  have hg : G1 T s := hG.1
  have hI : Inv T s := hg.1
  have h14 : m ≤ 14 := hG.2.2.2.1
  obtain ⟨⟨c, hX⟩, h5⟩ := id hC
  obtain ⟨og, hH⟩ := hX.2.2.2.1
  have h1 := hX.1
  have hr : Rel c s := hX.2.1
  have hIc := hr.inv hI
  have e1 : c 1 = s 1 := hr.h (by omega)
  have e2 : c 2 = s 2 := hr.h (by omega)
  have h30 := hI.np30
  by_cases hx : Rg (tn (s 2)) x
  · by_cases hy : Rg (tn (s 2)) y
    · obtain ⟨pz, hz, rfl⟩ := hx
      obtain ⟨qz, hw, rfl⟩ := hy
      have hzc : pz < tn (c 2) := by rw [e2]; exact hz
      have hwc : qz < tn (c 2) := by rw [e2]; exact hw
      have ep : tn (nI pz) = pz := tn_nI (by omega)
      have eq : tn (nI qz) = qz := tn_nI (by omega)
      by_cases hm : MayX s pz qz
      · have hf : exchFl s (nI pz) (nI qz) = 0 := exchFl_0.mpr ⟨⟨⟨pz, hz, rfl⟩, ⟨qz, hw, rfl⟩⟩, by rw [ep, eq]; exact hm⟩
        refine Pair.act (a' := (exchS s pz qz, min (m + 1) 14, pushH h m s, sl, fl, t, lz)) (Ck.act h5 hX hH (hr.exch hI hz hw hm.1 hm.2.1)) act_far (hG.act (by omega) (by omega) ((hg.exch hz hw hm).mono (by omega) (by omega))) (w_exchange_0 lu Dg E N G shp σ hS hN hO (rd0 (c_X5_exchange_0 lu Dg E N G shp σ hS c hIc hzc hwc ((hr.mayX hI hz hw).mpr hm) hH.ok) h1 ?_)) (fun σ2 h2 => ⟨_, _, _, _, _, _, _, c_X6_exchange_0 lu Dg E N G shp σ2 hM (σ2 781) s (σ2 783) (σ2 784) (σ2 785) (σ2 786) (σ2 787) hI h2.1.2.1 h14 (by omega) (by omega) hf, act_0, h2.act h14 act_3 act_5⟩)
        rw [hr.plcE hI hz hm.1, hr.plcE hI hw hm.2.1, hr.h (i := 8) (by omega)]
      · exact Pair.f (k := 2) (by decide) (by decide) hC hG hT (w_exchange_2 lu Dg E N G shp σ hS hN hO (th0 (c_X5_exchange_z lu hl9 Dg E N G shp σ hS c hIc hzc hwc (fun z => hm ((hr.mayX hI hz hw).mp z))) h1)) (fun σ2 h2 => c_X6_exchange_n lu Dg E N G shp σ2 hM (σ2 781) s (σ2 783) (σ2 784) (σ2 785) (σ2 786) (σ2 787) hI (nI pz) (nI qz) (k := 2) (exchFl_2 ⟨pz, hz, rfl⟩ ⟨qz, hw, rfl⟩ (by rw [ep, eq]; exact hm)) (by decide) (by decide))
    · obtain ⟨pz, hz, rfl⟩ := hx
      exact Pair.f (k := 1) (by decide) (by decide) hC hG hT (w_exchange_1 lu Dg E N G shp σ hS hN hO (th0 (c_X5_exchange_y lu hl9 Dg E N G shp σ hS c hIc (by rw [e2]; exact hz) y (by rw [e2]; exact hy)) h1)) (fun σ2 h2 => c_X6_exchange_n lu Dg E N G shp σ2 hM (σ2 781) s (σ2 783) (σ2 784) (σ2 785) (σ2 786) (σ2 787) hI (nI pz) y (k := 1) (exchFl_1 (Or.inr hy)) (by decide) (by decide))
  · exact Pair.f (k := 1) (by decide) (by decide) hC hG hT (w_exchange_1 lu Dg E N G shp σ hS hN hO (th0 (c_X5_exchange_x lu hl9 Dg E N G shp σ hS c hIc x y (by rw [e2]; exact hx)) h1)) (fun σ2 h2 => c_X6_exchange_n lu Dg E N G shp σ2 hM (σ2 781) s (σ2 783) (σ2 784) (σ2 785) (σ2 786) (σ2 787) hI x y (k := 1) (exchFl_1 (Or.inl hx)) (by decide) (by decide))
theorem op_merge (lu : Launch) (hl9 : lu.stackTraces = false) (Dg : va_G) (E : Nat → ClassId) (N : Nat) (G : Nat → Nat) (shp : Nat → (Nat → Int32) → va_E) (σ : Nat → Nat → Int32) (hS : StoodS E G shp N) (hN : 788 < N) (hO : shp 788 = LoS E 1) (hM : ModS E G shp N 781) {a : AB} {T : Nat} (hC : Ck σ a) (hG : Go T a) (hT : T ≤ 990000) (x : Int32) (y : Int32) : Pair lu Dg E N G shp σ a T yL_merge wsL_merge { frames := 9, cells := 1, slots := 6, locals := 205 } [.ref (G 0), .int x, .int y, .ref (G 788)] yX6_merge wsX6_merge { frames := 3, cells := 0, slots := 0, locals := 72 } [.ref (G 781), .int x, .int y] := by
  obtain ⟨s, m, h, sl, fl, t, lz⟩ := a
  have hg : G1 T s := hG.1
  have hI : Inv T s := hg.1
  have h14 : m ≤ 14 := hG.2.2.2.1
  obtain ⟨⟨c, hX⟩, h5⟩ := id hC
  obtain ⟨og, hH⟩ := hX.2.2.2.1
  have h1 := hX.1
  have hr : Rel c s := hX.2.1
  have hIc := hr.inv hI
  have e1 : c 1 = s 1 := hr.h (by omega)
  have e2 : c 2 = s 2 := hr.h (by omega)
  have h3l := hI.nl3
  by_cases hx : Rg (tn (s 1)) x
  · by_cases hy : Rg (tn (s 1)) y
    · obtain ⟨yz, hz, rfl⟩ := hx
      obtain ⟨oz, hw, rfl⟩ := hy
      have hzc : yz < tn (c 1) := by rw [e1]; exact hz
      have hwc : oz < tn (c 1) := by rw [e1]; exact hw
      have el : tn (nI yz) = yz := tn_nI (by omega)
      have eo : tn (nI oz) = oz := tn_nI (by omega)
      have ef : mergeFl c (nI yz) (nI oz) = mergeFl s (nI yz) (nI oz) := hr.mergeE hI
      by_cases hq : yz = oz
      · exact Pair.f (k := 2) (by decide) (by decide) hC hG hT (w_merge_2 lu Dg E N G shp σ hS hN hO (th0 (c_X5_merge_z lu hl9 Dg E N G shp σ hS c hIc hzc hwc hq) h1)) (fun σ2 h2 => c_X6_merge_n lu Dg E N G shp σ2 hM (σ2 781) s (σ2 783) (σ2 784) (σ2 785) (σ2 786) (σ2 787) hI (nI yz) (nI oz) (k := 2) (mergeFl_2 ⟨yz, hz, rfl⟩ ⟨oz, hw, rfl⟩ (congrArg nI hq)) (by decide) (by decide))
      · have hnq : ¬ nI yz = nI oz := fun z => hq ((nI_eq (by omega) (by omega)).mp z)
        by_cases hf : mergeFl s (nI yz) (nI oz) = 0
        · have hab := (mergeFl_0.mp hf).2.2
          rw [el, eo] at hab
          refine Pair.act (a' := (mergesF s yz oz, min (m + 1) 14, pushH h m s, sl, fl, t, lz)) (Ck.act h5 hX hH (hr.merges hI hz hw hq hab)) act_far (hG.act (by omega) (by omega) ((hg.merges hz hw hq hab).mono (by omega) (by omega))) (w_merge_0 lu Dg E N G shp σ hS hN hO (rd0 (c_X5_merge_0 lu Dg E N G shp σ hS c hIc hzc hwc (ef.trans hf) hH.ok) h1 ?_)) (fun σ2 h2 => ⟨_, _, _, _, _, _, _, c_X6_merge_0 lu Dg E N G shp σ2 hM (σ2 781) s (σ2 783) (σ2 784) (σ2 785) (σ2 786) (σ2 787) hI h2.1.2.1 h14 (by omega) (by omega) hf, act_0, h2.act h14 act_3 act_5⟩)
          rw [(hr.L hz).2.1, (hr.L hw).2.1]
        · exact Pair.f (k := 3) (by decide) (by decide) hC hG hT (w_merge_3 lu Dg E N G shp σ hS hN hO (th0 (c_X5_merge_w lu hl9 Dg E N G shp σ hS c hIc hzc hwc hq (by rw [ef]; exact hf)) h1)) (fun σ2 h2 => c_X6_merge_n lu Dg E N G shp σ2 hM (σ2 781) s (σ2 783) (σ2 784) (σ2 785) (σ2 786) (σ2 787) hI (nI yz) (nI oz) (k := 3) (mergeFl_3 ⟨yz, hz, rfl⟩ ⟨oz, hw, rfl⟩ hnq hf) (by decide) (by decide))
    · obtain ⟨yz, hz, rfl⟩ := hx
      exact Pair.f (k := 1) (by decide) (by decide) hC hG hT (w_merge_1 lu Dg E N G shp σ hS hN hO (th0 (c_X5_merge_y lu hl9 Dg E N G shp σ hS c hIc (by rw [e1]; exact hz) y (by rw [e1]; exact hy)) h1)) (fun σ2 h2 => c_X6_merge_n lu Dg E N G shp σ2 hM (σ2 781) s (σ2 783) (σ2 784) (σ2 785) (σ2 786) (σ2 787) hI (nI yz) y (k := 1) (mergeFl_1 (Or.inr hy)) (by decide) (by decide))
  · exact Pair.f (k := 1) (by decide) (by decide) hC hG hT (w_merge_1 lu Dg E N G shp σ hS hN hO (th0 (c_X5_merge_x lu hl9 Dg E N G shp σ hS c hIc x y (by rw [e1]; exact hx)) h1)) (fun σ2 h2 => c_X6_merge_n lu Dg E N G shp σ2 hM (σ2 781) s (σ2 783) (σ2 784) (σ2 785) (σ2 786) (σ2 787) hI x y (k := 1) (mergeFl_1 (Or.inl hx)) (by decide) (by decide))
theorem op_minutes (lu : Launch) (hl9 : lu.stackTraces = false) (Dg : va_G) (E : Nat → ClassId) (N : Nat) (G : Nat → Nat) (shp : Nat → (Nat → Int32) → va_E) (σ : Nat → Nat → Int32) (hS : StoodS E G shp N) (hN : 788 < N) (hO : shp 788 = LoS E 1) (hM : ModS E G shp N 781) {a : AB} {T : Nat} (hC : Ck σ a) (hG : Go T a) (hT : T ≤ 990000) (x : Int32) : Pair lu Dg E N G shp σ a T yL_minutes wsL_minutes { frames := 7, cells := 1, slots := 6, locals := 161 } [.ref (G 0), .int x, .ref (G 788)] yX6_minutes wsX6_minutes { frames := 5, cells := 0, slots := 0, locals := 109 } [.ref (G 781), .int x] := by
  obtain ⟨s, m, h, sl, fl, t, lz⟩ := a
  have hg : G1 T s := hG.1
  have hI : Inv T s := hg.1
  have h14 : m ≤ 14 := hG.2.2.2.1
  obtain ⟨⟨c, hX⟩, h5⟩ := id hC
  obtain ⟨og, hH⟩ := hX.2.2.2.1
  have h1 := hX.1
  have hr : Rel c s := hX.2.1
  have hIc := hr.inv hI
  have e1 : c 1 = s 1 := hr.h (by omega)
  have e2 : c 2 = s 2 := hr.h (by omega)
  by_cases hx : nI 1 ≤ x ∧ x ≤ nI 60
  · obtain ⟨kz, k1, k2, rfl⟩ := rg_ab hx (by decide) (by decide)
    have hgo := hr.goBy hI (n := kz) (by omega)
    refine Pair.act (a' := (goByS s kz, min (m + 1) 14, pushH h m s, sl, fl, t, lz)) (Ck.act h5 hX hH (hgo.1)) act_far (hG.act (by omega) (by omega) ((hg.goBy (n := kz) (by omega)).mono (by omega) (by omega))) (w_minutes_0 lu Dg E N G shp σ hS hN hO (rd0 (c_X5_minutes_0 lu Dg E N G shp σ hS c hIc (by omega) k1 k2 hH.ok) h1 ?_)) (fun σ2 h2 => ⟨_, _, _, _, _, _, _, c_X6_minutes_0 lu Dg E N G shp σ2 hM (σ2 781) s (σ2 783) (σ2 784) (σ2 785) (σ2 786) (σ2 787) h2.1.2.1 h14 k1 k2 (fun j hj => ⟨_, hI.goBy (n := j) (by omega)⟩), act_0, h2.act h14 act_3 act_5⟩)
    rw [hgo.2]
  · exact Pair.f (k := 1) (by decide) (by decide) hC hG hT (w_minutes_1 lu Dg E N G shp σ hS hN hO (th0 (c_X5_minutes_x lu hl9 Dg E N G shp σ hS c x hx) h1)) (fun σ2 h2 => c_X6_minutes_1 lu Dg E N G shp σ2 hM (σ2 781) s (σ2 783) (σ2 784) (σ2 785) (σ2 786) (σ2 787) x hx)
