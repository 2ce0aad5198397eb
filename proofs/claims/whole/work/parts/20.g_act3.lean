theorem op_simulate (lu : Launch) (hl9 : lu.stackTraces = false) (Dg : va_G) (E : Nat → ClassId) (N : Nat) (G : Nat → Nat) (shp : Nat → (Nat → Int32) → va_E) (σ : Nat → Nat → Int32) (hS : StoodS E G shp N) (hN : 788 < N) (hO : shp 788 = LoS E 1) (hM : ModS E G shp N 781) {a : AB} {T : Nat} (hC : Ck σ a) (hG : Go T a) (hT : T ≤ 990000) (z : Int64) (x : Int32) : Pair lu Dg E N G shp σ a T yL_simulate wsL_simulate { frames := 7, cells := 1, slots := 6, locals := 167 } [.ref (G 0), .long z, .int x, .ref (G 788)] yX6_simulate wsX6_simulate { frames := 7, cells := 0, slots := 0, locals := 160 } [.ref (G 781), .long z, .int x] := by
  obtain ⟨s, m, h, sl, fl, t, lz⟩ := a
  have hg : G1 T s := hG.1
  have hI : Inv T s := hg.1
  have h14 : m ≤ 14 := hG.2.2.2.1
  obtain ⟨⟨c, hX⟩, h5⟩ := id hC
  obtain ⟨og, hH⟩ := hX.2.2.2.1
  have h1 := hX.1
  have hr : Rel c s := hX.2.1
  have hIc := hr.inv hI
  have e1 : c 1 = s 1 := hr.h (by omega)
  have e2 : c 2 = s 2 := hr.h (by omega)
  obtain ⟨d, hd⟩ := hX.2.2.1
  by_cases hx : nI 1 ≤ x ∧ x ≤ nI 99
  · obtain ⟨kz, k1, k2, rfl⟩ := rg_ab hx (by decide) (by decide)
    refine Pair.q (σ1 := hs (hs σ 44 _) 1 c) ⟨Cl.trial hX, by rw [hs5, hs_far (by omega)]; exact h5⟩ (fun n g1 g2 => by rw [hs_far (by omega), hs_far (by omega)]) hG hT (w_simulate_0 lu Dg E N G shp σ hS hN hO (rd0 (c_X5_simulate_0 lu Dg E N G shp σ hS c hr hI (by omega) hg.2.2 d hd z k1 k2) h1 ?_)) (fun σ2 h2 => c_X6_simulate_0 lu Dg E N G shp σ2 hM (σ2 781) s (σ2 783) (σ2 784) (σ2 785) (σ2 786) (σ2 787) hI (by omega) h2.1.1 hg.2.2 z k1 k2)
    exact hr.simA hI hg.2.2 z (by omega)
  · exact Pair.f (k := 1) (by decide) (by decide) hC hG hT (w_simulate_1 lu Dg E N G shp σ hS hN hO (th0 (c_X5_simulate_x lu hl9 Dg E N G shp σ hS c z x hx) h1)) (fun σ2 h2 => c_X6_simulate_1 lu Dg E N G shp σ2 hM (σ2 781) s (σ2 783) (σ2 784) (σ2 785) (σ2 786) (σ2 787) z x hx)
theorem op_runScript (lu : Launch) (hl9 : lu.stackTraces = false) (Dg : va_G) (E : Nat → ClassId) (N : Nat) (G : Nat → Nat) (shp : Nat → (Nat → Int32) → va_E) (σ : Nat → Nat → Int32) (hS : StoodS E G shp N) (hN : 788 < N) (hO : shp 788 = LoS E 1) (hM : ModS E G shp N 781) {a : AB} {T : Nat} (hC : Ck σ a) (hG : Go T a) (hT : T ≤ 990000) (x : Int32) (z : Int64) : Pair lu Dg E N G shp σ a T yL_runScript wsL_runScript { frames := 7, cells := 1, slots := 6, locals := 165 } [.ref (G 0), .int x, .long z, .ref (G 788)] yX6_runScript wsX6_runScript { frames := 7, cells := 0, slots := 0, locals := 161 } [.ref (G 781), .int x, .long z] := by
  obtain ⟨s, m, h, sl, fl, t, lz⟩ := a
  have hg : G1 T s := hG.1
  have hI : Inv T s := hg.1
  have h14 : m ≤ 14 := hG.2.2.2.1
  obtain ⟨⟨c, hX⟩, h5⟩ := id hC
  obtain ⟨og, hH⟩ := hX.2.2.2.1
  have h1 := hX.1
  have hr : Rel c s := hX.2.1
  have hIc := hr.inv hI
  have e1 : c 1 = s 1 := hr.h (by omega)
  have e2 : c 2 = s 2 := hr.h (by omega)
  obtain ⟨d, hd⟩ := hX.2.2.1
  by_cases hx : nI 1 ≤ x ∧ x ≤ nI 3
  · obtain ⟨kz, k1, k2, rfl⟩ := rg_ab hx (by decide) (by decide)
    by_cases hz0 : z < 0
    · rcases (show kz = 1 ∨ kz = 2 ∨ kz = 3 by omega) with rfl | rfl | rfl
      · exact Pair.f (k := 1) (by decide) (by decide) hC hG hT (w_runScript_1 lu Dg E N G shp σ hS hN hO (th0 (c_X5_runScript_y lu hl9 Dg E N G shp σ hS c k1 k2 z hz0) h1)) (fun σ2 h2 => c_X6_runScript_2_1 lu Dg E N G shp σ2 hM (σ2 781) s (σ2 783) (σ2 784) (σ2 785) (σ2 786) (σ2 787) z hz0)
      · exact Pair.f (k := 1) (by decide) (by decide) hC hG hT (w_runScript_1 lu Dg E N G shp σ hS hN hO (th0 (c_X5_runScript_y lu hl9 Dg E N G shp σ hS c k1 k2 z hz0) h1)) (fun σ2 h2 => c_X6_runScript_2_2 lu Dg E N G shp σ2 hM (σ2 781) s (σ2 783) (σ2 784) (σ2 785) (σ2 786) (σ2 787) z hz0)
      · exact Pair.f (k := 1) (by decide) (by decide) hC hG hT (w_runScript_1 lu Dg E N G shp σ hS hN hO (th0 (c_X5_runScript_y lu hl9 Dg E N G shp σ hS c k1 k2 z hz0) h1)) (fun σ2 h2 => c_X6_runScript_2_3 lu Dg E N G shp σ2 hM (σ2 781) s (σ2 783) (σ2 784) (σ2 785) (σ2 786) (σ2 787) z hz0)
    · obtain ⟨g, hz, rfl⟩ := pk_lOf hz0
      by_cases hq : dvG g kz = 0
      · rcases (show kz = 1 ∨ kz = 2 ∨ kz = 3 by omega) with rfl | rfl | rfl
        · refine Pair.q (σ1 := hs (hs σ 44 _) 1 c) ⟨Cl.trial hX, by rw [hs5, hs_far (by omega)]; exact h5⟩ (fun n g1 g2 => by rw [hs_far (by omega), hs_far (by omega)]) hG hT (w_runScript_0 lu Dg E N G shp σ hS hN hO (rd0 (c_X5_runScript_0 lu Dg E N G shp σ hS c hr hI (by omega) d hd k1 k2 hz hq) h1 ?_)) (fun σ2 h2 => c_X6_runScript_0_1 lu Dg E N G shp σ2 hM (σ2 781) s (σ2 783) (σ2 784) (σ2 785) (σ2 786) (σ2 787) hI (by omega) h2.1.1 hz hq)
          exact (hr.scrE hI (by omega)).2
        · refine Pair.q (σ1 := hs (hs σ 44 _) 1 c) ⟨Cl.trial hX, by rw [hs5, hs_far (by omega)]; exact h5⟩ (fun n g1 g2 => by rw [hs_far (by omega), hs_far (by omega)]) hG hT (w_runScript_0 lu Dg E N G shp σ hS hN hO (rd0 (c_X5_runScript_0 lu Dg E N G shp σ hS c hr hI (by omega) d hd k1 k2 hz hq) h1 ?_)) (fun σ2 h2 => c_X6_runScript_0_2 lu Dg E N G shp σ2 hM (σ2 781) s (σ2 783) (σ2 784) (σ2 785) (σ2 786) (σ2 787) hI (by omega) h2.1.1 hz hq)
          exact (hr.scrE hI (by omega)).2
        · refine Pair.q (σ1 := hs (hs σ 44 _) 1 c) ⟨Cl.trial hX, by rw [hs5, hs_far (by omega)]; exact h5⟩ (fun n g1 g2 => by rw [hs_far (by omega), hs_far (by omega)]) hG hT (w_runScript_0 lu Dg E N G shp σ hS hN hO (rd0 (c_X5_runScript_0 lu Dg E N G shp σ hS c hr hI (by omega) d hd k1 k2 hz hq) h1 ?_)) (fun σ2 h2 => c_X6_runScript_0_3 lu Dg E N G shp σ2 hM (σ2 781) s (σ2 783) (σ2 784) (σ2 785) (σ2 786) (σ2 787) hI (by omega) h2.1.1 hz hq)
          exact (hr.scrE hI (by omega)).2
      · rcases (show kz = 1 ∨ kz = 2 ∨ kz = 3 by omega) with rfl | rfl | rfl
        · exact Pair.f (k := 1) (by decide) (by decide) hC hG hT (w_runScript_1 lu Dg E N G shp σ hS hN hO (th0 (c_X5_runScript_z lu hl9 Dg E N G shp σ hS c k1 k2 hz hq) h1)) (fun σ2 h2 => c_X6_runScript_3_1 lu Dg E N G shp σ2 hM (σ2 781) s (σ2 783) (σ2 784) (σ2 785) (σ2 786) (σ2 787) hz hq)
        · exact Pair.f (k := 1) (by decide) (by decide) hC hG hT (w_runScript_1 lu Dg E N G shp σ hS hN hO (th0 (c_X5_runScript_z lu hl9 Dg E N G shp σ hS c k1 k2 hz hq) h1)) (fun σ2 h2 => c_X6_runScript_3_2 lu Dg E N G shp σ2 hM (σ2 781) s (σ2 783) (σ2 784) (σ2 785) (σ2 786) (σ2 787) hz hq)
        · exact Pair.f (k := 1) (by decide) (by decide) hC hG hT (w_runScript_1 lu Dg E N G shp σ hS hN hO (th0 (c_X5_runScript_z lu hl9 Dg E N G shp σ hS c k1 k2 hz hq) h1)) (fun σ2 h2 => c_X6_runScript_3_3 lu Dg E N G shp σ2 hM (σ2 781) s (σ2 783) (σ2 784) (σ2 785) (σ2 786) (σ2 787) hz hq)
  · exact Pair.f (k := 1) (by decide) (by decide) hC hG hT (w_runScript_1 lu Dg E N G shp σ hS hN hO (th0 (c_X5_runScript_x lu hl9 Dg E N G shp σ hS c z x hx) h1)) (fun σ2 h2 => c_X6_runScript_1 lu Dg E N G shp σ2 hM (σ2 781) s (σ2 783) (σ2 784) (σ2 785) (σ2 786) (σ2 787) x hx z)
theorem op_load (lu : Launch) (hl9 : lu.stackTraces = false) (Dg : va_G) (E : Nat → ClassId) (N : Nat) (G : Nat → Nat) (shp : Nat → (Nat → Int32) → va_E) (σ : Nat → Nat → Int32) (hS : StoodS E G shp N) (hN : 788 < N) (hO : shp 788 = LoS E 1) (hM : ModS E G shp N 781) {a : AB} {T : Nat} (hC : Ck σ a) (hG : Go T a) (hT : T ≤ 990000)  : Pair lu Dg E N G shp σ a T yL_load wsL_load { frames := 8, cells := 1, slots := 6, locals := 178 } [.ref (G 0), .ref (G 788)] yX6_load wsX6_load { frames := 8, cells := 0, slots := 0, locals := 183 } [.ref (G 781)] := by
  obtain ⟨s, m, h, sl, fl, t, lz⟩ := a
  have hg : G1 T s := hG.1
  have hI : Inv T s := hg.1
  have h14 : m ≤ 14 := hG.2.2.2.1
  obtain ⟨⟨c, hX⟩, h5⟩ := id hC
  obtain ⟨og, hH⟩ := hX.2.2.2.1
  have h1 := hX.1
  have hr : Rel c s := hX.2.1
  have hIc := hr.inv hI
  have e1 : c 1 = s 1 := hr.h (by omega)
  have e2 : c 2 = s 2 := hr.h (by omega)
  have t1 : σ 780 = t := hX.2.2.2.2.2.1
  have t2 : σ 779 1 = nI lz := hX.2.2.2.2.2.2
  have h100 : lz ≤ 100 := hG.2.2.2.2.1
  have hRg : ∀ k, k < lz → Rg 256 (t k) := hG.2.2.2.2.2
  have hta : ∀ σ2, Mo σ2 (s, m, h, sl, fl, t, lz) → ∀ k, k < lz → σ2 787 k &&& nI 255 = t k := fun σ2 h2 k hk => by rw [show σ2 787 k = (t k).toInt8.toInt32 from h2.2.2.2.2 k hk]; exact byte_and (hRg k hk)
  have htw : ∀ σ2, Mo σ2 (s, m, h, sl, fl, t, lz) → 0 < lz → (σ2 787 0 = nI 87 ↔ t 0 = nI 87) := fun σ2 h2 hk => by rw [show σ2 787 0 = (t 0).toInt8.toInt32 from h2.2.2.2.2 0 hk]; exact byte_87 (hRg 0 hk)
  by_cases hok : (prs t lz).2
  · have hc := c_X5_load_0 lu Dg E N G shp σ hS c t2 h100 (by rw [t1]; exact hok) (by rw [t1]; exact prs_inv hok)
    have hc2 := (hc.pre h1).to (post' := fun v τ => ∃ x, v = some (.int x) ∧ (x = nI (ldS t lz).2 ∧ ∃ c' x', τ = hs (ldG σ x') 1 c' ∧ Rel c' (ldS t lz).1)) (fun v τ hh => by
      obtain ⟨c', k1, k2, k3⟩ := hh
      rw [t1] at k1 k2 k3
      exact ⟨_, k3, rfl, c', _, k1, k2⟩)
    refine ⟨0, nI (ldS t lz).2, ((ldS t lz).1, 0, h, sl, (fun _ => False), t, lz), by omega, (Go.mono (T := T + 900) (Go.load (hG.mono (by omega) (by omega)) ((ldS_G hok).mono (by omega) (by omega))) (by omega) (by omega)), (w_load_0 lu Dg E N G shp σ hS hN hO hc2).to (fun v τ hh => ?_), fun σ2 h2 => ?_⟩
    · obtain ⟨x, τ0, k1, k2, k3, c', x', k4, k5⟩ := hh
      have hck : Ck (hs (ldG σ x') 1 c') ((ldS t lz).1, 0, h, sl, (fun _ => False), t, lz) := ⟨Cl.load hX k5, by rw [hs5, ldG_row σ x' (by omega) (by omega) (by omega)]; exact h5⟩
      refine ⟨k1, hck.far (fun n hn => by rw [k2, k4, st2_row _ (by omega)]), fun _ => by rw [k2, st2_eq, if_pos ⟨rfl, rfl⟩]; exact k3, fun n g1 g2 => ?_⟩
      rw [k2, k4, st2_row _ (by omega), hs_far (by omega), ldG_row σ x' (by omega) (by omega) (by omega)]
    · refine ((c_X6_load_0 lu Dg E N G shp σ2 hM (σ2 781) s (σ2 783) (σ2 784) (σ2 785) (σ2 786) (σ2 787) h2.1.2.2 h100 (hta σ2 h2) (htw σ2 h2) (prs_inv hok) hok).x.pre h2.form).to (fun v τ hh => ⟨⟨_, hh.1, fun _ => rfl⟩, ?_, ?_, fun n hn => by rw [hh.2]; exact mk7_far hn⟩)
      · rw [hh.2, mk7_0, pz_o _ _ _ _ (by omega), upd_ap, if_neg (by omega), pz_o _ _ _ _ (by omega), upd_ap, if_pos rfl]
      · rw [hh.2]
        refine h2.load (fun i hi => ?_) ?_
        · rw [pz_o _ _ _ _ (by omega), upd_ap, if_neg (by omega), pz_o _ _ _ _ (by omega), upd_ap, if_neg (by omega)]
        · rw [pz_o _ _ _ _ (by omega), upd_ap, if_pos rfl]
  · have hc := c_X5_load_x lu hl9 Dg E N G shp σ hS c t2 h100 (by rw [t1]; exact hok)
    rw [h1] at hc
    refine ⟨1, 0, (s, m, h, sl, fl, t, lz), by omega, hG.mono (by omega) (by omega), (w_load_1 lu Dg E N G shp σ hS hN hO hc).to (fun v τ hh => ⟨hh.1, ?_, fun z => absurd z (by decide), fun n g1 g2 => ?_⟩), fun σ2 h2 => ?_⟩
    · rw [hh.2]
      exact ⟨Cl.text hX (fun n hn => by rw [st2_row _ (by omega)]) (by rw [st2_row _ (by omega)]; exact t1) (by rw [st2_eq, if_neg (by omega)]; exact t2), by rw [hs5, st2_row _ (by omega)]; exact h5⟩
    · rw [hh.2, hs_far (by omega), st2_row _ (by omega)]
    · refine ((c_X6_load_1 lu Dg E N G shp σ2 hM (σ2 781) s (σ2 783) (σ2 784) (σ2 785) (σ2 786) (σ2 787) h2.1.2.2 h100 (hta σ2 h2) (htw σ2 h2) hok).x.pre h2.form).to (fun v τ hh => ⟨⟨_, hh.1, fun z => absurd z (by decide)⟩, ?_, ?_, fun n hn => by rw [hh.2]; exact mk7_far hn⟩)
      · rw [hh.2, mk7_0, pz_o _ _ _ _ (by omega), upd_ap, if_pos rfl]
      · rw [hh.2]
        exact h2.q (fun i hi => by rw [pz_o _ _ _ _ (by omega), upd_ap, if_neg (by omega)])
