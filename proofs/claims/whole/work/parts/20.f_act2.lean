theorem op_set (lu : Launch) (hl9 : lu.stackTraces = false) (Dg : va_G) (E : Nat → ClassId) (N : Nat) (G : Nat → Nat) (shp : Nat → (Nat → Int32) → va_E) (σ : Nat → Nat → Int32) (hS : StoodS E G shp N) (hN : 788 < N) (hO : shp 788 = LoS E 1) (hM : ModS E G shp N 781) {a : AB} {T : Nat} (hC : Ck σ a) (hG : Go T a) (hT : T ≤ 990000) (x : Int32) (y : Int32) : Pair lu Dg E N G shp σ a T yL_set wsL_set { frames := 8, cells := 1, slots := 6, locals := 182 } [.ref (G 0), .int x, .int y, .ref (G 788)] yX6_set wsX6_set { frames := 2, cells := 0, slots := 0, locals := 43 } [.ref (G 781), .int x, .int y] := by
  obtain ⟨s, m, h, sl, fl, t, lz⟩ := a
  have hg : G1 T s := hG.1
  have hI : Inv T s := hg.1
  have h14 : m ≤ 14 := hG.2.2.2.1
  obtain ⟨⟨c, hX⟩, h5⟩ := id hC
  obtain ⟨og, hH⟩ := hX.2.2.2.1
  have h1 := hX.1
  have hr : Rel c s := hX.2.1
  have hIc := hr.inv hI
  have e1 : c 1 = s 1 := hr.h (by omega)
  have e2 : c 2 = s 2 := hr.h (by omega)
  by_cases hx : Rg 4 x
  · obtain ⟨kz, hz, rfl⟩ := hx
    rcases (show kz = 0 ∨ kz = 1 ∨ kz = 2 ∨ kz = 3 by omega) with rfl | rfl | rfl | rfl
    · have ea : stLeast 0 = nI 10 := by decide +kernel
      have eb : stMost 0 = nI 99 := by decide +kernel
      by_cases hy : stLeast 0 ≤ y ∧ y ≤ stMost 0
      · have hy6 : nI 10 ≤ y ∧ y ≤ nI 99 := by rw [← ea, ← eb]; exact hy
        refine Pair.act (a' := (upd s 6 y, min (m + 1) 14, pushH h m s, sl, fl, t, lz)) (Ck.act h5 hX hH (hr.setV hI (k := 0) (by omega) y)) act_far (hG.act (by omega) (by omega) ((hg.setV (k := 0) (by omega) hy).mono (by omega) (by omega))) (w_set_0 lu Dg E N G shp σ hS hN hO (rd0 (c_X5_set_0 lu Dg E N G shp σ hS c hz y hy hH.ok) h1 ?_)) (fun σ2 h2 => ⟨_, _, _, _, _, _, _, c_X6_set_0_0 lu Dg E N G shp σ2 hM (σ2 781) s (σ2 783) (σ2 784) (σ2 785) (σ2 786) (σ2 787) y hy6 h2.1.2.1 h14, act_0, h2.act h14 act_3 act_5⟩)
        exact hr.h (i := 6) (by omega)
      · have hy6 : ¬ (nI 10 ≤ y ∧ y ≤ nI 99) := by rw [← ea, ← eb]; exact hy
        exact Pair.f (k := 1) (by decide) (by decide) hC hG hT (w_set_1 lu Dg E N G shp σ hS hN hO (th0 (c_X5_set_y lu hl9 Dg E N G shp σ hS c hz y hy) h1)) (fun σ2 h2 => c_X6_set_2_0 lu Dg E N G shp σ2 hM (σ2 781) s (σ2 783) (σ2 784) (σ2 785) (σ2 786) (σ2 787) y hy6)
    · have ea : stLeast 1 = nI 0 := by decide +kernel
      have eb : stMost 1 = nI 50 := by decide +kernel
      by_cases hy : stLeast 1 ≤ y ∧ y ≤ stMost 1
      · have hy6 : nI 0 ≤ y ∧ y ≤ nI 50 := by rw [← ea, ← eb]; exact hy
        refine Pair.act (a' := (upd s 7 y, min (m + 1) 14, pushH h m s, sl, fl, t, lz)) (Ck.act h5 hX hH (hr.setV hI (k := 1) (by omega) y)) act_far (hG.act (by omega) (by omega) ((hg.setV (k := 1) (by omega) hy).mono (by omega) (by omega))) (w_set_0 lu Dg E N G shp σ hS hN hO (rd0 (c_X5_set_0 lu Dg E N G shp σ hS c hz y hy hH.ok) h1 ?_)) (fun σ2 h2 => ⟨_, _, _, _, _, _, _, c_X6_set_0_1 lu Dg E N G shp σ2 hM (σ2 781) s (σ2 783) (σ2 784) (σ2 785) (σ2 786) (σ2 787) y hy6 h2.1.2.1 h14, act_0, h2.act h14 act_3 act_5⟩)
        exact hr.h (i := 7) (by omega)
      · have hy6 : ¬ (nI 0 ≤ y ∧ y ≤ nI 50) := by rw [← ea, ← eb]; exact hy
        exact Pair.f (k := 1) (by decide) (by decide) hC hG hT (w_set_1 lu Dg E N G shp σ hS hN hO (th0 (c_X5_set_y lu hl9 Dg E N G shp σ hS c hz y hy) h1)) (fun σ2 h2 => c_X6_set_2_1 lu Dg E N G shp σ2 hM (σ2 781) s (σ2 783) (σ2 784) (σ2 785) (σ2 786) (σ2 787) y hy6)
    · have ea : stLeast 2 = nI 1 := by decide +kernel
      have eb : stMost 2 = nI 9 := by decide +kernel
      by_cases hy : stLeast 2 ≤ y ∧ y ≤ stMost 2
      · have hy6 : nI 1 ≤ y ∧ y ≤ nI 9 := by rw [← ea, ← eb]; exact hy
        refine Pair.act (a' := (upd s 8 y, min (m + 1) 14, pushH h m s, sl, fl, t, lz)) (Ck.act h5 hX hH (hr.setV hI (k := 2) (by omega) y)) act_far (hG.act (by omega) (by omega) ((hg.setV (k := 2) (by omega) hy).mono (by omega) (by omega))) (w_set_0 lu Dg E N G shp σ hS hN hO (rd0 (c_X5_set_0 lu Dg E N G shp σ hS c hz y hy hH.ok) h1 ?_)) (fun σ2 h2 => ⟨_, _, _, _, _, _, _, c_X6_set_0_2 lu Dg E N G shp σ2 hM (σ2 781) s (σ2 783) (σ2 784) (σ2 785) (σ2 786) (σ2 787) y hy6 h2.1.2.1 h14, act_0, h2.act h14 act_3 act_5⟩)
        exact hr.h (i := 8) (by omega)
      · have hy6 : ¬ (nI 1 ≤ y ∧ y ≤ nI 9) := by rw [← ea, ← eb]; exact hy
        exact Pair.f (k := 1) (by decide) (by decide) hC hG hT (w_set_1 lu Dg E N G shp σ hS hN hO (th0 (c_X5_set_y lu hl9 Dg E N G shp σ hS c hz y hy) h1)) (fun σ2 h2 => c_X6_set_2_2 lu Dg E N G shp σ2 hM (σ2 781) s (σ2 783) (σ2 784) (σ2 785) (σ2 786) (σ2 787) y hy6)
    · have ea : stLeast 3 = nI 1 := by decide +kernel
      have eb : stMost 3 = nI 5 := by decide +kernel
      by_cases hy : stLeast 3 ≤ y ∧ y ≤ stMost 3
      · have hy6 : nI 1 ≤ y ∧ y ≤ nI 5 := by rw [← ea, ← eb]; exact hy
        refine Pair.act (a' := (upd s 9 y, min (m + 1) 14, pushH h m s, sl, fl, t, lz)) (Ck.act h5 hX hH (hr.setV hI (k := 3) (by omega) y)) act_far (hG.act (by omega) (by omega) ((hg.setV (k := 3) (by omega) hy).mono (by omega) (by omega))) (w_set_0 lu Dg E N G shp σ hS hN hO (rd0 (c_X5_set_0 lu Dg E N G shp σ hS c hz y hy hH.ok) h1 ?_)) (fun σ2 h2 => ⟨_, _, _, _, _, _, _, c_X6_set_0_3 lu Dg E N G shp σ2 hM (σ2 781) s (σ2 783) (σ2 784) (σ2 785) (σ2 786) (σ2 787) y hy6 h2.1.2.1 h14, act_0, h2.act h14 act_3 act_5⟩)
        exact hr.h (i := 9) (by omega)
      · have hy6 : ¬ (nI 1 ≤ y ∧ y ≤ nI 5) := by rw [← ea, ← eb]; exact hy
        exact Pair.f (k := 1) (by decide) (by decide) hC hG hT (w_set_1 lu Dg E N G shp σ hS hN hO (th0 (c_X5_set_y lu hl9 Dg E N G shp σ hS c hz y hy) h1)) (fun σ2 h2 => c_X6_set_2_3 lu Dg E N G shp σ2 hM (σ2 781) s (σ2 783) (σ2 784) (σ2 785) (σ2 786) (σ2 787) y hy6)
  · exact Pair.f (k := 1) (by decide) (by decide) hC hG hT (w_set_1 lu Dg E N G shp σ hS hN hO (th0 (c_X5_set_x lu hl9 Dg E N G shp σ hS c x y hx) h1)) (fun σ2 h2 => c_X6_set_1 lu Dg E N G shp σ2 hM (σ2 781) s (σ2 783) (σ2 784) (σ2 785) (σ2 786) (σ2 787) x y hx)
theorem op_undo (lu : Launch) (hl9 : lu.stackTraces = false) (Dg : va_G) (E : Nat → ClassId) (N : Nat) (G : Nat → Nat) (shp : Nat → (Nat → Int32) → va_E) (σ : Nat → Nat → Int32) (hS : StoodS E G shp N) (hN : 788 < N) (hO : shp 788 = LoS E 1) (hM : ModS E G shp N 781) {a : AB} {T : Nat} (hC : Ck σ a) (hG : Go T a) (hT : T ≤ 990000)  : Pair lu Dg E N G shp σ a T yL_undo wsL_undo { frames := 7, cells := 1, slots := 6, locals := 160 } [.ref (G 0), .ref (G 788)] yX6_undo wsX6_undo { frames := 1, cells := 0, slots := 0, locals := 21 } [.ref (G 781)] := by
  obtain ⟨s, m, h, sl, fl, t, lz⟩ := a
  have hg : G1 T s := hG.1
  have hI : Inv T s := hg.1
  have h14 : m ≤ 14 := hG.2.2.2.1
  obtain ⟨⟨c, hX⟩, h5⟩ := id hC
  obtain ⟨og, hH⟩ := hX.2.2.2.1
  have h1 := hX.1
  have hr : Rel c s := hX.2.1
  have hIc := hr.inv hI
  have e1 : c 1 = s 1 := hr.h (by omega)
  have e2 : c 2 = s 2 := hr.h (by omega)
  rcases Nat.eq_zero_or_pos m with hm | hm
  · exact Pair.f (k := 1) (by decide) (by decide) hC hG hT (w_undo_1 lu Dg E N G shp σ hS hN hO (th0 (c_X5_undo_x lu hl9 Dg E N G shp σ hS c (by rw [hH.2.1.1, hm])) h1)) (fun σ2 h2 => c_X6_undo_n lu Dg E N G shp σ2 hM (σ2 781) s (σ2 783) (σ2 784) (σ2 785) (σ2 786) (σ2 787) (by rw [h2.1.2.1]; exact congrArg nI hm))
  · obtain ⟨rg, rfl⟩ : ∃ rg, m = rg + 1 := ⟨m - 1, by omega⟩
    obtain ⟨d, hd, rd⟩ := hH.2.2.1 rg (Nat.lt_succ_self rg)
    refine Pair.act (a' := (h rg, rg, h, sl, fl, t, lz)) (σ1 := hs (st2 σ 87 2 (nI rg)) 1 d) ⟨Cl.undo hX hH rd, by rw [hs5, st2_row _ (by omega)]; exact h5⟩ (fun n g1 g2 => by rw [hs_far (by omega), st2_row _ (by omega)]) (hG.undo.mono (by omega) (by omega)) (w_undo_0 lu Dg E N G shp σ hS hN hO (rd0 (c_X5_undo_0 lu Dg E N G shp σ hS c d hH.1.1 hH.1.2 hH.2.1.1 (by omega) hd) h1 rfl)) (fun σ2 h2 => ⟨_, _, _, _, _, _, _, c_X6_undo_0 lu Dg E N G shp σ2 hM (σ2 781) s (σ2 783) (σ2 784) (σ2 785) (σ2 786) (σ2 787) h2.1.2.1 (by omega) (h rg) (fun i hi => (h2.2.2.1 rg (Nat.lt_succ_self rg) i hi).symm), act_0, h2.undo act_3 act_5⟩)
theorem op_save (lu : Launch) (hl9 : lu.stackTraces = false) (Dg : va_G) (E : Nat → ClassId) (N : Nat) (G : Nat → Nat) (shp : Nat → (Nat → Int32) → va_E) (σ : Nat → Nat → Int32) (hS : StoodS E G shp N) (hN : 788 < N) (hO : shp 788 = LoS E 1) (hM : ModS E G shp N 781) {a : AB} {T : Nat} (hC : Ck σ a) (hG : Go T a) (hT : T ≤ 990000) (x : Int32) : Pair lu Dg E N G shp σ a T yL_save wsL_save { frames := 8, cells := 1, slots := 6, locals := 181 } [.ref (G 0), .int x, .ref (G 788)] yX6_save wsX6_save { frames := 1, cells := 0, slots := 0, locals := 22 } [.ref (G 781), .int x] := by
  obtain ⟨s, m, h, sl, fl, t, lz⟩ := a
  have hg : G1 T s := hG.1
  have hI : Inv T s := hg.1
  have h14 : m ≤ 14 := hG.2.2.2.1
  obtain ⟨⟨c, hX⟩, h5⟩ := id hC
  obtain ⟨og, hH⟩ := hX.2.2.2.1
  have h1 := hX.1
  have hr : Rel c s := hX.2.1
  have hIc := hr.inv hI
  have e1 : c 1 = s 1 := hr.h (by omega)
  have e2 : c 2 = s 2 := hr.h (by omega)
  by_cases hx : Rg 2 x
  · obtain ⟨kz, hz, rfl⟩ := hx
    refine Pair.act (a' := (s, m, h, va_up sl kz s, (fun j => j = kz ∨ fl j), t, lz)) (σ1 := hs (st2 (hs σ (692 + 43 * kz) c) 778 kz (nI 1)) 1 c) ⟨Cl.save hX hz, by rw [hs5, st2_row _ (by omega), hs_far (by omega)]; exact h5⟩ (fun n g1 g2 => by rw [hs_far (by omega), st2_row _ (by omega), hs_far (by omega)]) (hG.save.mono (by omega) (by omega)) (w_save_0 lu Dg E N G shp σ hS hN hO (rd0 (c_X5_save_0 lu Dg E N G shp σ hS c hz (fun i hi => by obtain ⟨_, d, hd, _⟩ := hX.2.2.2.2.1 i hi; exact ⟨d, hd⟩)) h1 (hr.h (by omega)))) (fun σ2 h2 => ⟨_, _, _, _, _, _, _, c_X6_save_0 lu Dg E N G shp σ2 hM (σ2 781) s (σ2 783) (σ2 784) (σ2 785) (σ2 786) (σ2 787) hz, by rw [upd_ap, if_pos rfl], h2.save hz (fun i hi => by rw [upd_ap, if_neg (by omega)])⟩)
  · exact Pair.f (k := 1) (by decide) (by decide) hC hG hT (w_save_1 lu Dg E N G shp σ hS hN hO (th0 (c_X5_save_x lu hl9 Dg E N G shp σ hS c x hx) h1)) (fun σ2 h2 => c_X6_save_1 lu Dg E N G shp σ2 hM (σ2 781) s (σ2 783) (σ2 784) (σ2 785) (σ2 786) (σ2 787) x hx)
theorem op_restore (lu : Launch) (hl9 : lu.stackTraces = false) (Dg : va_G) (E : Nat → ClassId) (N : Nat) (G : Nat → Nat) (shp : Nat → (Nat → Int32) → va_E) (σ : Nat → Nat → Int32) (hS : StoodS E G shp N) (hN : 788 < N) (hO : shp 788 = LoS E 1) (hM : ModS E G shp N 781) {a : AB} {T : Nat} (hC : Ck σ a) (hG : Go T a) (hT : T ≤ 990000) (x : Int32) : Pair lu Dg E N G shp σ a T yL_restore wsL_restore { frames := 8, cells := 1, slots := 6, locals := 181 } [.ref (G 0), .int x, .ref (G 788)] yX6_restore wsX6_restore { frames := 1, cells := 0, slots := 0, locals := 22 } [.ref (G 781), .int x] := by
  obtain ⟨s, m, h, sl, fl, t, lz⟩ := a
  have hg : G1 T s := hG.1
  have hI : Inv T s := hg.1
  have h14 : m ≤ 14 := hG.2.2.2.1
  obtain ⟨⟨c, hX⟩, h5⟩ := id hC
  obtain ⟨og, hH⟩ := hX.2.2.2.1
  have h1 := hX.1
  have hr : Rel c s := hX.2.1
  have hIc := hr.inv hI
  have e1 : c 1 = s 1 := hr.h (by omega)
  have e2 : c 2 = s 2 := hr.h (by omega)
  by_cases hx : Rg 2 x
  · obtain ⟨kz, hz, rfl⟩ := hx
    obtain ⟨f1, d, hd, rd⟩ := hX.2.2.2.2.1 kz hz
    by_cases hq : fl kz
    · have rd9 : Rel d (sl kz) := rd hq
      refine Pair.act (a' := (sl kz, 0, h, sl, fl, t, lz)) (σ1 := hs (st2 (st2 σ 87 1 (nI 0)) 87 2 (nI 0)) 1 d) ⟨Cl.restore hX rd9, by rw [hs5, st2_row _ (by omega), st2_row _ (by omega)]; exact h5⟩ (fun n g1 g2 => by rw [hs_far (by omega), st2_row _ (by omega), st2_row _ (by omega)]) ((hG.restore hz hq).mono (by omega) (by omega)) (w_restore_0 lu Dg E N G shp σ hS hN hO (rd0 (c_X5_restore_0 lu Dg E N G shp σ hS c hz d (f1.trans (bi_pt hq)) hd) h1 (rd9.h (by omega)))) (fun σ2 h2 => ⟨_, _, _, _, _, _, _, c_X6_restore_0 lu Dg E N G shp σ2 hM (σ2 781) s (σ2 783) (σ2 784) (σ2 785) (σ2 786) (σ2 787) hz (by rw [(h2.2.2.2.1 kz hz).1, bi_pt hq]; decide) (sl kz) (fun i hi => ((h2.2.2.2.1 kz hz).2 hq i hi).symm), act_0, h2.restore act_3 act_5⟩)
    · exact Pair.f (k := 2) (by decide) (by decide) hC hG hT (w_restore_2 lu Dg E N G shp σ hS hN hO (th0 (c_X5_restore_y lu hl9 Dg E N G shp σ hS c hz (f1.trans (bi_pf hq))) h1)) (fun σ2 h2 => c_X6_restore_2 lu Dg E N G shp σ2 hM (σ2 781) s (σ2 783) (σ2 784) (σ2 785) (σ2 786) (σ2 787) hz (by rw [(h2.2.2.2.1 kz hz).1]; exact bi_pf hq))
  · exact Pair.f (k := 1) (by decide) (by decide) hC hG hT (w_restore_1 lu Dg E N G shp σ hS hN hO (th0 (c_X5_restore_x lu hl9 Dg E N G shp σ hS c x hx) h1)) (fun σ2 h2 => c_X6_restore_1 lu Dg E N G shp σ2 hM (σ2 781) s (σ2 783) (σ2 784) (σ2 785) (σ2 786) (σ2 787) x hx)
theorem op_append (lu : Launch) (hl9 : lu.stackTraces = false) (Dg : va_G) (E : Nat → ClassId) (N : Nat) (G : Nat → Nat) (shp : Nat → (Nat → Int32) → va_E) (σ : Nat → Nat → Int32) (hS : StoodS E G shp N) (hN : 788 < N) (hO : shp 788 = LoS E 1) (hM : ModS E G shp N 781) {a : AB} {T : Nat} (hC : Ck σ a) (hG : Go T a) (hT : T ≤ 990000) (x : Int32) : Pair lu Dg E N G shp σ a T yL_append wsL_append { frames := 7, cells := 1, slots := 6, locals := 161 } [.ref (G 0), .int x, .ref (G 788)] yX6_append wsX6_append { frames := 1, cells := 0, slots := 0, locals := 22 } [.ref (G 781), .int x] := by
  obtain ⟨s, m, h, sl, fl, t, lz⟩ := a
  have hg : G1 T s := hG.1
  have hI : Inv T s := hg.1
  have h14 : m ≤ 14 := hG.2.2.2.1
  obtain ⟨⟨c, hX⟩, h5⟩ := id hC
  obtain ⟨og, hH⟩ := hX.2.2.2.1
  have h1 := hX.1
  have hr : Rel c s := hX.2.1
  have hIc := hr.inv hI
  have e1 : c 1 = s 1 := hr.h (by omega)
  have e2 : c 2 = s 2 := hr.h (by omega)
  have t1 : σ 780 = t := hX.2.2.2.2.2.1
  have t2 : σ 779 1 = nI lz := hX.2.2.2.2.2.2
  have h100 : lz ≤ 100 := hG.2.2.2.2.1
  by_cases hx : Rg 256 x
  · obtain ⟨kz, hk, rfl⟩ := hx
    by_cases hq : lz < 100
    · refine Pair.act (a' := (s, m, h, sl, fl, upd t lz (nI kz), lz + 1)) (σ1 := hs (st2 (st2 σ 780 lz (nI kz)) 779 1 (nI (lz + 1))) 1 c) ⟨Cl.text hX (fun n hn => by rw [st2_row _ (by omega), st2_row _ (by omega)]) ?_ (by rw [st2_eq, if_pos ⟨rfl, rfl⟩]), by rw [hs5, st2_row _ (by omega), st2_row _ (by omega)]; exact h5⟩ (fun n g1 g2 => by rw [hs_far (by omega), st2_row _ (by omega), st2_row _ (by omega)]) ((hG.append hq hk).mono (by omega) (by omega)) (w_append_0 lu Dg E N G shp σ hS hN hO (rd0 (c_X5_append_0 lu Dg E N G shp σ hS c t2 hq hk) h1 rfl)) (fun σ2 h2 => ⟨_, _, _, _, _, _, _, c_X6_append_0 lu Dg E N G shp σ2 hM (σ2 781) s (σ2 783) (σ2 784) (σ2 785) (σ2 786) (σ2 787) hk h2.1.2.2 hq, by rw [upd_ap, if_neg (by omega), upd_ap, if_pos rfl], h2.append (fun i hi => by rw [upd_ap, if_neg (by omega), upd_ap, if_neg (by omega)]) (by rw [upd_ap, if_pos rfl])⟩)
      rw [st2_row _ (by omega)]
      funext i
      rw [st2_eq, upd_ap, ← t1]
      by_cases qi : i = lz
      · rw [if_pos ⟨rfl, qi⟩, if_pos qi]
      · rw [if_neg (fun z => qi z.2), if_neg qi]
    · exact Pair.f (k := 2) (by decide) (by decide) hC hG hT (w_append_2 lu Dg E N G shp σ hS hN hO (th0 (c_X5_append_y lu hl9 Dg E N G shp σ hS c t2 (by omega) hk) h1)) (fun σ2 h2 => c_X6_append_2 lu Dg E N G shp σ2 hM (σ2 781) s (σ2 783) (σ2 784) (σ2 785) (σ2 786) (σ2 787) hk (by rw [h2.1.2.2]; exact congrArg nI (by show lz = 100; omega)))
  · exact Pair.f (k := 1) (by decide) (by decide) hC hG hT (w_append_1 lu Dg E N G shp σ hS hN hO (th0 (c_X5_append_x lu hl9 Dg E N G shp σ hS c x hx) h1)) (fun σ2 h2 => c_X6_append_1 lu Dg E N G shp σ2 hM (σ2 781) s (σ2 783) (σ2 784) (σ2 785) (σ2 786) (σ2 787) x hx)
