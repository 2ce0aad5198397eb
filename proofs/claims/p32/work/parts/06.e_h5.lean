/-- the class's order of serving the first one, and the reference's, come to the same -/
theorem wk2_class (t : Nat → Int32) {y len q : Nat} (hy : y < 3) (hlen : t (13 + y) = nI len) (h0 : 0 < len) (h12 : len ≤ 12) (hq : t (22 + 12 * y + 0) = nI q) (hq30 : q < 30) :
    (let u1 := upd (upd t (58 + 10 * q + 1) (-1)) (58 + 10 * q + 5) (nI 1)
     let u2 := shF (upd u1 (13 + y) (nI (len - 1))) (22 + 12 * y) 0 (len - 1)
     let u3 := upd u2 (16 + y) (nI 0)
     upd u3 (19 + y) (u3 (19 + y) + nI 1)) = wk2 t y := by
  simp only [wk2, leavesF]
  rw [hlen, tn_nI (by omega), hq, tn_nI (by omega)]
  funext i
  simp only [upd_ap, shF]
  grind
set_option maxRecDepth 100000 in
theorem inX1_work_X3 : ∀ w ∈ wsX30, w ∈ wsX1_work := by decide +kernel
set_option maxHeartbeats 4000000 in
set_option maxRecDepth 100000 in
/-- Hall.work -/
theorem c_X1_work (lu : Launch) (Dg : va_G) (E : Nat → ClassId) (N : Nat) (G : Nat → Nat) (shp : Nat → (Nat → Int32) → va_E) (σ : Nat → Nat → Int32) {b : Nat} (hH : HallS E G shp N b) (c : Nat → Int32) {y : Nat} (hy : y < 3) (hln : c (13 + y) = nI (tn (c (13 + y)))) (h12 : tn (c (13 + y)) ≤ 12) {q : Nat} (hqq : 0 < tn (c (13 + y)) → c (22 + 12 * y + 0) = nI q) (hq30 : q < 30)  : CS lu yX1_work wsX1_work { frames := 2, cells := 0, slots := 0, locals := 43 } Dg E N G shp (hs σ b c) [.ref (G b), .ref (G (b + 7 + 2 * y))] (some (.int (nI (wkN c y)))) (hs σ b (wkF c y)) := by
  refine CS.of (cc := cX1_work) (maxL := 2) (ret := (some .int)) (by decide) rfl (Nat.le_of_ble_eq_true rfl) ?_
  intro p_ e_ s_ m_ args_ below_ meth_ c_
  refine v_eq (pc' := 0) (st' := []) rfl rfl ?_
  refine v_loc [0, 1] [(0, .ref (G b)), (1, .ref (G (b + 7 + 2 * y)))] rfl ?_
  have hq : 0 < tn (c (13 + y)) → c (22 + 12 * y + 0) = nI q := hqq
  have hc16 : wk1 c y = upd c (16 + y) (c (16 + y) + nI 1) := rfl
  refine v_aload_n 1 dX1_work_0 rfl rfl ?_
  refine l_geti (g := c) (k := 3) (y := y) (by omega) (c (13 + y)) hH rfl (lF3 _ _) inX1_work_X3 (by decide) (by decide +kernel) rfl dX1_work_1 ?_
  refine v_topi (nI (tn (c (13 + y)))) (hln) ?_
  refine v_if_neN 9 (by omega) dX1_work_4 rfl (fun h4 => ?_) (fun h4 => ?_)
  · skip
    refine v_aload_n 1 dX1_work_9 rfl rfl ?_
    refine v_dup dX1_work_10 rfl ?_
    refine l_geti (g := c) (k := 1) (y := y) (by omega) (c (16 + y)) hH rfl (lF1 _ _) inX1_work_X3 (by decide) (by decide +kernel) rfl dX1_work_11 ?_
    refine v_iconst (nI 1) dX1_work_14 (by decide +kernel) ?_
    refine v_iadd dX1_work_15 ?_
    refine l_puti (k := 1) (y := y) (by omega) hH rfl (hst_l1 (by omega) _) inX1_work_X3 (by decide) (by decide +kernel) rfl rfl (by decide +kernel) dX1_work_16 ?_
    generalize hg1 : upd c (16 + y) ((c (16 + y)) + (nI 1)) = g1
    refine v_aload_n 1 dX1_work_19 rfl rfl ?_
    refine l_geti (g := g1) (k := 1) (y := y) (by omega) (g1 (16 + y)) hH rfl (lF1 _ _) inX1_work_X3 (by decide) (by decide +kernel) rfl dX1_work_20 ?_
    refine v_aload_n 1 dX1_work_23 rfl rfl ?_
    refine l_geti (g := g1) (k := 0) (y := y) (by omega) (g1 (10 + y)) hH rfl (lF0 _ _) inX1_work_X3 (by decide) (by decide +kernel) rfl dX1_work_24 ?_
    refine v_icmp_ge 32 dX1_work_27 rfl (fun h27 => ?_) (fun h27 => ?_)
    · skip
      have e13 : g1 (13 + y) = c (13 + y) := by rw [← hg1, upd_ap, if_neg (by omega)]
      have e22 : g1 (22 + 12 * y + 0) = c (22 + 12 * y + 0) := by rw [← hg1, upd_ap, if_neg (by omega)]
      refine v_aload_n 0 dX1_work_32 rfl rfl ?_
      refine v_aload_n 1 dX1_work_33 rfl rfl ?_
      refine v_iconst (nI 0) dX1_work_34 (by decide +kernel) ?_
      refine u_callVv [.int (nI 0)] [.ref (G b)] 1 ((c_X3_who lu Dg E N G shp σ hH g1 (l := y) hy (len := tn (c (13 + y))) (by rw [e13]; exact hln) h12 0 (by omega)).to (v' := some (.int (nI q))) (congrArg (fun z => some (Value.int z)) (by rw [ic_t (by omega), e22]; exact hqq (by omega))) rfl) (ci := 3) (C := RX3) (T := TX3) (NF := 5) (hH.li (l := y) (by omega)).n (hH.li (l := y) (by omega)).2.1 rfl gX1_work_X3_who rfl rfl rfl (by decide +kernel) rfl ⟨Nat.le_of_ble_eq_true rfl, Nat.le_of_ble_eq_true rfl⟩ ⟨Nat.le_of_ble_eq_true rfl, Nat.le_of_ble_eq_true rfl⟩ (Nat.le_of_ble_eq_true rfl) rfl dX1_work_35 ?_
      refine u_callVv [.int (nI q)] [] 1 (c_X1_personOf lu Dg E N G shp σ hH g1 (k := q) (by omega)) (ci := 1) (C := RX1) (T := TX1) (NF := 11) hH.n hH.s rfl gX1_work_X1_personOf rfl rfl rfl (by decide +kernel) rfl ⟨Nat.le_of_ble_eq_true rfl, Nat.le_of_ble_eq_true rfl⟩ ⟨Nat.le_of_ble_eq_true rfl, Nat.le_of_ble_eq_true rfl⟩ (Nat.le_of_ble_eq_true rfl) rfl dX1_work_38 ?_
      refine v_iconst (nI 1) dX1_work_41 (by decide +kernel) ?_
      refine u_callVn [.int (nI 1)] [] 1 (c_X4_end lu Dg E N G shp σ hH g1 (q := q) (by omega) (nI 1)) (ci := 4) (C := RX4) (T := TX4) (NF := 9) (hH.pe (p := q) (by omega)).1 (hH.pe (p := q) (by omega)).2 rfl gX1_work_X4_end rfl rfl rfl (by decide +kernel) rfl ⟨Nat.le_of_ble_eq_true rfl, Nat.le_of_ble_eq_true rfl⟩ ⟨Nat.le_of_ble_eq_true rfl, Nat.le_of_ble_eq_true rfl⟩ (Nat.le_of_ble_eq_true rfl) rfl dX1_work_42 ?_
      refine v_aload_n 1 dX1_work_45 rfl rfl ?_
      refine v_iconst (nI 0) dX1_work_46 (by decide +kernel) ?_
      refine u_callVn [.int (nI 0)] [] 1 (c_X3_remove lu Dg E N G shp σ hH (upd (upd g1 (58 + 10 * q + 1) (-1)) (58 + 10 * q + 5) (nI 1)) (l := y) hy (len := tn (c (13 + y))) (by simp only [upd_ap]; rw [if_neg (by omega), if_neg (by omega), e13]; exact hln) h12 (k := 0) (by omega)) (ci := 3) (C := RX3) (T := TX3) (NF := 5) (hH.li (l := y) (by omega)).n (hH.li (l := y) (by omega)).2.1 rfl gX1_work_X3_remove rfl rfl rfl (by decide +kernel) rfl ⟨Nat.le_of_ble_eq_true rfl, Nat.le_of_ble_eq_true rfl⟩ ⟨Nat.le_of_ble_eq_true rfl, Nat.le_of_ble_eq_true rfl⟩ (Nat.le_of_ble_eq_true rfl) rfl dX1_work_47 ?_
      refine v_aload_n 1 dX1_work_50 rfl rfl ?_
      refine v_iconst (nI 0) dX1_work_51 (by decide +kernel) ?_
      generalize hg2 : shF (upd (upd (upd g1 (58 + 10 * q + 1) (-1)) (58 + 10 * q + 5) (nI 1)) (13 + y) (nI (tn (c (13 + y)) - 1))) (22 + 12 * y) 0 (tn (c (13 + y)) - 1) = g2
      refine l_puti (k := 1) (y := y) (by omega) hH rfl (hst_l1 (by omega) _) inX1_work_X3 (by decide) (by decide +kernel) rfl rfl (by decide +kernel) dX1_work_52 ?_
      generalize hg3 : upd g2 (16 + y) (nI 0) = g3
      refine v_aload_n 1 dX1_work_55 rfl rfl ?_
      refine v_dup dX1_work_56 rfl ?_
      refine l_geti (g := g3) (k := 2) (y := y) (by omega) (g3 (19 + y)) hH rfl (lF2 _ _) inX1_work_X3 (by decide) (by decide +kernel) rfl dX1_work_57 ?_
      refine v_iconst (nI 1) dX1_work_60 (by decide +kernel) ?_
      refine v_iadd dX1_work_61 ?_
      refine l_puti (k := 2) (y := y) (by omega) hH rfl (hst_l2 (by omega) _) inX1_work_X3 (by decide) (by decide +kernel) rfl rfl (by decide +kernel) dX1_work_62 ?_
      generalize hg4 : upd g3 (19 + y) ((g3 (19 + y)) + (nI 1)) = g4
      refine v_iconst (nI 1) dX1_work_65 (by decide +kernel) ?_
      refine v_iret rfl dX1_work_66 ⟨congrArg (fun z => some (Value.int z)) ?_, congrArg (φ shp) ?_⟩
      · exact congrArg nI (by rw [wkN, ic_t (by omega), ic_f (by rw [hc16, hg1]; exact Int32.not_lt.mpr h27)])
      · rw [wkF, ic_t (by omega), ic_f (by rw [hc16, hg1]; exact Int32.not_lt.mpr h27), hc16, hg1, ← wk2_class g1 hy (len := tn (c (13 + y))) (q := q) (by rw [e13]; exact hln) (by omega) h12 (by rw [e22]; exact hqq (by omega)) hq30]; subst hg2; subst hg3; subst hg4; rfl
    · skip
      refine v_iconst (nI 0) dX1_work_30 (by decide +kernel) ?_
      refine v_iret rfl dX1_work_31 ⟨congrArg (fun z => some (Value.int z)) ?_, congrArg (φ shp) ?_⟩
      · exact congrArg nI (by rw [wkN, ic_t (by omega), ic_t (by rw [hc16, hg1]; exact Int32.not_le.mp h27)])
      · rw [wkF, ic_t (by omega), ic_t (by rw [hc16, hg1]; exact Int32.not_le.mp h27), hc16, hg1]
  · skip
    refine v_iconst (nI 0) dX1_work_7 (by decide +kernel) ?_
    refine v_iret rfl dX1_work_8 ⟨congrArg (fun z => some (Value.int z)) ?_, congrArg (φ shp) ?_⟩
    · exact congrArg nI (by rw [wkN, ic_f (by omega)])
    · rw [wkF, ic_f (by omega)]
set_option maxRecDepth 100000 in
theorem inX1_letPass_X1 : ∀ w ∈ wsX10, w ∈ wsX1_letPass := by decide +kernel
set_option maxHeartbeats 4000000 in
set_option maxRecDepth 100000 in
/-- Hall.letPass -/
theorem c_X1_letPass (lu : Launch) (Dg : va_G) (E : Nat → ClassId) (N : Nat) (G : Nat → Nat) (shp : Nat → (Nat → Int32) → va_E) (σ : Nat → Nat → Int32) {b : Nat} (hH : HallS E G shp N b) (c : Nat → Int32) (n0 : Nat) (hn0 : n0 < 2 ^ 31) (hJ : ∀ k, k < n0 → ∃ T, Inv T (goByS c k))  : CS lu yX1_letPass wsX1_letPass { frames := 3, cells := 0, slots := 0, locals := 64 } Dg E N G shp (hs σ b c) [.ref (G b), .int (nI n0)] (some (.int (nI (goByN c n0)))) (hs σ b (goByS c n0)) := by
  refine CS.of (cc := cX1_letPass) (maxL := 5) (ret := (some .int)) (by decide) rfl (Nat.le_of_ble_eq_true rfl) ?_
  intro p_ e_ s_ m_ args_ below_ meth_ c_
  refine v_eq (pc' := 0) (st' := []) rfl rfl ?_
  refine v_loc [0, 1] [(0, .ref (G b)), (1, .int (nI n0))] rfl ?_
  refine v_σ (hs σ b (goByS c 0)) (congrArg (fun z9 => hs σ b z9) (rfl)) ?_
  refine v_iconst (nI 0) dX1_letPass_0 (by decide +kernel) ?_
  refine v_istore_n [(2, .int (nI 0)), (0, .ref (G b)), (1, .int (nI n0))] dX1_letPass_1 rfl (by decide) rfl ?_
  refine v_iconst (nI 0) dX1_letPass_2 (by decide +kernel) ?_
  refine v_istore_n [(3, .int (nI 0)), (2, .int (nI 0)), (0, .ref (G b)), (1, .int (nI n0))] dX1_letPass_3 rfl (by decide) rfl ?_
  refine v_loc [0, 1, 3, 2] [(3, .int (nI 0)), (2, .int (nI 0)), (1, .int (nI n0)), (0, .ref (G b))] rfl ?_
  refine u_loop1 (fun n (k : Nat) => k + n = n0) (fun (k : Nat) => hs σ b (goByS c k)) (fun (k : Nat) => [(3, .int (nI k)), (2, .int (nI (goByN c k))), (1, .int (nI n0)), (0, .ref (G b))]) (n0) 0 ((by omega)) ?_
  intro n k hL ih
  refine v_iload_n 0 dX1_letPass_4 rfl rfl ?_
  refine v_iload_n 2 dX1_letPass_5 rfl rfl ?_
  refine v_icmp_geN 64 (by omega) (by omega) dX1_letPass_6 rfl (fun h6 => ?_) (fun h6 => ?_)
  · skip
    refine v_iload_n 1 dX1_letPass_64 rfl rfl ?_
    refine v_iret rfl dX1_letPass_65 ⟨congrArg (fun z => some (Value.int z)) ?_, congrArg (φ shp) ?_⟩
    · obtain rfl : k = n0 := (by omega); rfl
    · obtain rfl : k = n0 := (by omega); rfl
  · skip
    obtain ⟨T9, hI⟩ := hJ k h6
    generalize hsk : goByS c k = s0 at hI ih ⊢
    have hnp30 := hI.np30
    have hnl3 := hI.nl3
    refine v_aload_n 3 dX1_letPass_9 rfl rfl ?_
    refine v_dup dX1_letPass_10 rfl ?_
    refine h_geti (g := s0) (k := 2) (s0 0) hH rfl (hF2 _) inX1_letPass_X1 (by decide) (by decide +kernel) rfl dX1_letPass_11 ?_
    refine v_iconst (nI 1) dX1_letPass_14 (by decide +kernel) ?_
    refine v_iadd dX1_letPass_15 ?_
    refine h_puti (k := 2) hH rfl (hst_h2 _) inX1_letPass_X1 (by decide) (by decide +kernel) rfl rfl (by decide +kernel) dX1_letPass_16 ?_
    generalize hg1 : upd s0 0 ((s0 0) + (nI 1)) = g1
    refine v_aload_n 3 dX1_letPass_19 rfl rfl ?_
    refine u_callVn [] [] 0 (c_X1_certifyMinute lu Dg E N G shp σ hH g1 (m := tn (s0 2)) (by rw [← hg1, upd_ap, if_neg (by omega)]; exact hI.np) hI.np30) (ci := 1) (C := RX1) (T := TX1) (NF := 11) hH.n hH.s rfl gX1_letPass_X1_certifyMinute rfl rfl rfl (by decide +kernel) rfl ⟨Nat.le_of_ble_eq_true rfl, Nat.le_of_ble_eq_true rfl⟩ ⟨Nat.le_of_ble_eq_true rfl, Nat.le_of_ble_eq_true rfl⟩ (Nat.le_of_ble_eq_true rfl) rfl dX1_letPass_20 ?_
    refine v_σ (hs σ b (workTo (min1 s0) 0)) (congrArg (fun z9 => hs σ b z9) ((by subst hg1; rfl))) ?_
    refine v_iconst (nI 0) dX1_letPass_23 (by decide +kernel) ?_
    refine v_istore [(4, .int (nI 0)), (3, .int (nI k)), (2, .int (nI (goByN c k))), (1, .int (nI n0)), (0, .ref (G b))] dX1_letPass_24 (by decide) rfl ?_
    refine v_loc [0, 1, 2, 3, 4] [(4, .int (nI 0)), (3, .int (nI k)), (2, .int (nI (goByN c k))), (1, .int (nI n0)), (0, .ref (G b))] rfl ?_
    refine u_loop2 (fun n2 (y : Nat) (v : Nat) => y + n2 = tn (s0 1) ∧ v = goByN c k + workN (min1 s0) y) (fun (y : Nat) (v : Nat) => hs σ b (workTo (min1 s0) y)) (fun (y : Nat) (v : Nat) => [(4, .int (nI y)), (3, .int (nI k)), (2, .int (nI v)), (1, .int (nI n0)), (0, .ref (G b))]) (tn (s0 1)) 0 (goByN c k) (⟨by omega, rfl⟩) ?_
    intro n2 y v hL2 ih2
    refine v_iload 0 dX1_letPass_26 rfl ?_
    refine v_aload_n 4 dX1_letPass_28 rfl rfl ?_
    refine h_geti (g := (workTo (min1 s0) y)) (k := 0) ((workTo (min1 s0) y) 1) hH rfl (hF0 _) inX1_letPass_X1 (by decide) (by decide +kernel) rfl dX1_letPass_29 ?_
    refine v_topi (nI (tn (s0 1))) ((by rw [wm hI (by omega) (by unfold Lc; omega) (by omega)]; exact hI.nl)) ?_
    refine v_icmp_geN 54 (by omega) (by omega) dX1_letPass_32 rfl (fun h32 => ?_) (fun h32 => ?_)
    · skip
      obtain rfl : y = tn (s0 1) := by omega
      refine v_σ (hs σ b (min2 s0)) (congrArg (fun z9 => hs σ b z9) (rfl)) ?_
      refine v_aload_n 4 dX1_letPass_54 rfl rfl ?_
      refine u_callVn [] [] 0 (c_X1_payFees lu Dg E N G shp σ hH (min2 s0) (m := tn (s0 2)) (by unfold min2; rw [wm hI (Nat.le_refl _) (by unfold Lc; omega) (by omega)]; exact hI.np) hI.np30) (ci := 1) (C := RX1) (T := TX1) (NF := 11) hH.n hH.s rfl gX1_letPass_X1_payFees rfl rfl rfl (by decide +kernel) rfl ⟨Nat.le_of_ble_eq_true rfl, Nat.le_of_ble_eq_true rfl⟩ ⟨Nat.le_of_ble_eq_true rfl, Nat.le_of_ble_eq_true rfl⟩ (Nat.le_of_ble_eq_true rfl) rfl dX1_letPass_55 ?_
      refine v_σ (hs σ b (goByS c (k + 1))) (congrArg (fun z9 => hs σ b z9) ((by rw [goByS, hsk]; rfl))) ?_
      refine v_locv 2 (nI (goByN c (k + 1))) 2 [(4, .int (nI (tn (s0 1)))), (3, .int (nI k)), (2, .int (nI (goByN c (k + 1)))), (1, .int (nI n0)), (0, .ref (G b))] rfl (congrArg nI (by rw [hL2.2, goByN, hsk]; rfl)) rfl ?_
      refine v_iincN 1 [(3, .int (nI (k + 1))), (4, .int (nI (tn (s0 1)))), (2, .int (nI (goByN c (k + 1)))), (1, .int (nI n0)), (0, .ref (G b))] dX1_letPass_58 rfl (by decide) rfl ?_
      refine v_goto 4 dX1_letPass_61 rfl ?_
      refine v_loc [0, 2, 3, 4] [(3, .int (nI (k + 1))), (2, .int (nI (goByN c (k + 1)))), (1, .int (nI n0)), (0, .ref (G b))] rfl ?_
      exact ih _ (k + 1) (show n - 1 < n by omega) (by omega)
    · skip
      have e13 : workTo (min1 s0) y (13 + y) = s0 (13 + y) := wm hI (by omega) (by unfold Lc; omega) (by omega)
      have e22 : workTo (min1 s0) y (22 + 12 * y + 0) = s0 (22 + 12 * y + 0) := wm hI (by omega) (by unfold Lc; omega) (by omega)
      have h12 := hI.len12 h32
      have hq30 : (if 0 < tn (s0 (13 + y)) then tn (s0 (22 + 12 * y + 0)) else 0) < 30 := by split; exact Nat.lt_of_lt_of_le (hI.rowP h32 (by omega)) hI.np30; omega
      refine v_iload_n 2 dX1_letPass_35 rfl rfl ?_
      refine v_aload_n 4 dX1_letPass_36 rfl rfl ?_
      refine v_aload_n 4 dX1_letPass_37 rfl rfl ?_
      refine v_iload 0 dX1_letPass_38 rfl ?_
      refine u_callVv [.int (nI y)] [.ref (G b), .int (nI v)] 1 (c_X1_lineOf lu Dg E N G shp σ hH (workTo (min1 s0) y) (k := y) (by omega)) (ci := 1) (C := RX1) (T := TX1) (NF := 11) hH.n hH.s rfl gX1_letPass_X1_lineOf rfl rfl rfl (by decide +kernel) rfl ⟨Nat.le_of_ble_eq_true rfl, Nat.le_of_ble_eq_true rfl⟩ ⟨Nat.le_of_ble_eq_true rfl, Nat.le_of_ble_eq_true rfl⟩ (Nat.le_of_ble_eq_true rfl) rfl dX1_letPass_40 ?_
      refine u_callVv [.ref (G (b + 7 + 2 * y))] [.int (nI v)] 1 (c_X1_work lu Dg E N G shp σ hH (workTo (min1 s0) y) (y := y) (by omega) (by rw [e13]; exact hI.len h32) (by rw [e13]; exact h12) (q := if 0 < tn (s0 (13 + y)) then tn (s0 (22 + 12 * y + 0)) else 0) (by intro h9; rw [e13] at h9; rw [if_pos h9, e22]; exact hI.row h32 h9) hq30) (ci := 1) (C := RX1) (T := TX1) (NF := 11) hH.n hH.s rfl gX1_letPass_X1_work rfl rfl rfl (by decide +kernel) rfl ⟨Nat.le_of_ble_eq_true rfl, Nat.le_of_ble_eq_true rfl⟩ ⟨Nat.le_of_ble_eq_true rfl, Nat.le_of_ble_eq_true rfl⟩ (Nat.le_of_ble_eq_true rfl) rfl dX1_letPass_43 ?_
      refine v_iaddN dX1_letPass_46 ?_
      refine v_istore_n [(2, .int (nI (v + (wkN (workTo (min1 s0) y) y)))), (4, .int (nI y)), (3, .int (nI k)), (1, .int (nI n0)), (0, .ref (G b))] dX1_letPass_47 rfl (by decide) rfl ?_
      refine v_iincN 1 [(4, .int (nI (y + 1))), (2, .int (nI (v + (wkN (workTo (min1 s0) y) y)))), (3, .int (nI k)), (1, .int (nI n0)), (0, .ref (G b))] dX1_letPass_48 rfl (by decide) rfl ?_
      refine v_goto 26 dX1_letPass_51 rfl ?_
      refine v_loc [0, 2, 1, 3, 4] [(4, .int (nI (y + 1))), (3, .int (nI k)), (2, .int (nI (v + (wkN (workTo (min1 s0) y) y)))), (1, .int (nI n0)), (0, .ref (G b))] rfl ?_
      exact ih2 _ (y + 1) (v + (wkN (workTo (min1 s0) y) y)) (show n2 - 1 < n2 by omega) (⟨by omega, by rw [hL2.2, workN, Nat.add_assoc]⟩)
