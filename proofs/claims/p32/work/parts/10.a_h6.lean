theorem upd_same (c : Nat → Int32) (i : Nat) : upd c i (c i) = c := by
  funext x; simp only [upd_ap]
  by_cases e : x = i
  · rw [if_pos e, e]
  · rw [if_neg e]
theorem payFor_out {c : Nat → Int32} {p q i : Nat} (h : i < 58) (h5 : i ≠ 5) : payFor c p q i = c i := by
  simp only [payFor, payBy, ic]
  split
  · simp only [upd_ap]; rw [if_neg h5, if_neg (by omega), if_neg (by omega), if_neg (by omega)]
  · simp only [upd_ap]; rw [if_neg (by omega), if_neg (by omega), if_neg (by omega)]
/-- one passing as the class does it: the money, then the two change places -/
theorem pass_step (t : Nat → Int32) {a m p q : Nat} (hm : 0 < m) (ha : a + m < 58) (ha2 : 22 ≤ a) (hpq : p ≠ q) (hq : t (a + m - 1) = nI q) (hq30 : q < 30) :
    upd (upd (payFor (upd t (a + m) (nI p)) p q) (a + (m - 1)) (payFor (upd t (a + m) (nI p)) p q (a + m))) (a + m) (payFor (upd t (a + m) (nI p)) p q (a + (m - 1))) = upd (jst t a m p) (a + (m - 1)) (nI p) := by
  have e1 : a + m - 1 = a + (m - 1) := by omega
  have hq' : t (a + (m - 1)) = nI q := e1 ▸ hq
  rw [payFor_out (by omega) (by omega), payFor_out (by omega) (by omega), upd_ap, if_pos rfl, upd_ap, if_neg (by omega), hq']
  simp only [jst]
  rw [hq, tn_nI (by omega)]
  by_cases hk : t (58 + 10 * p) = nI 1
  · have c1 : upd (upd t (a + m) (nI p)) (58 + 10 * q + 7) (upd t (a + m) (nI p) (58 + 10 * q + 7) + nI 1) (58 + 10 * p) = nI 1 := by simp only [upd_ap]; rw [if_neg (by omega), if_neg (by omega)]; exact hk
    simp only [payFor, payBy]
    rw [ic_t c1, ic_t (by simp only [upd_ap, Nat.add_zero]; rw [if_neg (by omega), if_neg (by omega), if_neg (by omega)]; exact hk)]
    funext i
    simp only [upd_ap]
    grind
  · have c1 : ¬ upd (upd t (a + m) (nI p)) (58 + 10 * q + 7) (upd t (a + m) (nI p) (58 + 10 * q + 7) + nI 1) (58 + 10 * p) = nI 1 := by simp only [upd_ap]; rw [if_neg (by omega), if_neg (by omega)]; exact hk
    simp only [payFor]
    rw [ic_f c1, ic_f (by simp only [upd_ap, Nat.add_zero]; rw [if_neg (by omega), if_neg (by omega), if_neg (by omega)]; exact hk)]
    funext i
    simp only [upd_ap]
    grind
set_option maxRecDepth 100000 in
theorem inX1_pass_X1 : ∀ w ∈ wsX10, w ∈ wsX1_pass := by decide +kernel
set_option maxRecDepth 100000 in
theorem inX1_pass_X4 : ∀ w ∈ wsX40, w ∈ wsX1_pass := by decide +kernel
set_option maxHeartbeats 4000000 in
set_option maxRecDepth 100000 in
/-- Hall.pass -/
theorem c_X1_pass (lu : Launch) (Dg : va_G) (E : Nat → ClassId) (N : Nat) (G : Nat → Nat) (shp : Nat → (Nat → Int32) → va_E) (σ : Nat → Nat → Int32) {b : Nat} (hH : HallS E G shp N b) (c : Nat → Int32) {T : Nat} (hI : Inv T c) {p : Nat} (hp : p < 2 ^ 31)  : CS lu yX1_pass wsX1_pass { frames := 3, cells := 0, slots := 0, locals := 64 } Dg E N G shp (hs σ b c) [.ref (G b), .int (nI p)] (some (.int (ic (p < tn (c 2) ∧ MayC c p) (nI (jsteps c p)) (-1)))) (hs σ b (ic (p < tn (c 2) ∧ MayC c p) (jumpsS c p) c)) := by
  refine CS.of (cc := cX1_pass) (maxL := 7) (ret := (some .int)) (by decide) rfl (Nat.le_of_ble_eq_true rfl) ?_
  intro p_ e_ s_ m_ args_ below_ meth_ c_
  refine v_eq (pc' := 0) (st' := []) rfl rfl ?_
  refine v_loc [0, 1] [(0, .ref (G b)), (1, .int (nI p))] rfl ?_
  refine v_aload_n 0 dX1_pass_0 rfl rfl ?_
  refine v_iload_n 1 dX1_pass_1 rfl rfl ?_
  refine u_callVv [.int (nI p)] [] 1 (c_X1_mayPass lu Dg E N G shp σ hH c hI (p := p) hp) (ci := 1) (C := RX1) (T := TX1) (NF := 11) hH.n hH.s rfl gX1_pass_X1_mayPass rfl rfl rfl (by decide +kernel) rfl ⟨Nat.le_of_ble_eq_true rfl, Nat.le_of_ble_eq_true rfl⟩ ⟨Nat.le_of_ble_eq_true rfl, Nat.le_of_ble_eq_true rfl⟩ (Nat.le_of_ble_eq_true rfl) rfl dX1_pass_2 ?_
  refine v_if_neB 10 dX1_pass_5 rfl (fun h5 => ?_) (fun h5 => ?_)
  · skip
    have hq := hI.plcs h5.1 h5.2.1
    have hp30 := Nat.lt_of_lt_of_le h5.1 hI.np30
    have hl3 := Nat.lt_of_lt_of_le hq.1 hI.nl3
    have hk12 := hI.len12 hq.1
    have hpl := hq.2.2.1
    have hj5 := hI.jump5
    have hst : jsteps c p ≤ plc c p := Nat.min_le_left _ _
    refine v_aload_n 0 dX1_pass_10 rfl rfl ?_
    refine v_iload_n 1 dX1_pass_11 rfl rfl ?_
    refine u_callVv [.int (nI p)] [] 1 (c_X1_personOf lu Dg E N G shp σ hH c (k := p) (by omega)) (ci := 1) (C := RX1) (T := TX1) (NF := 11) hH.n hH.s rfl gX1_pass_X1_personOf rfl rfl rfl (by decide +kernel) rfl ⟨Nat.le_of_ble_eq_true rfl, Nat.le_of_ble_eq_true rfl⟩ ⟨Nat.le_of_ble_eq_true rfl, Nat.le_of_ble_eq_true rfl⟩ (Nat.le_of_ble_eq_true rfl) rfl dX1_pass_12 ?_
    refine v_astore_n [(2, .ref (G (b + 13 + p))), (0, .ref (G b)), (1, .int (nI p))] dX1_pass_15 rfl (by decide) rfl ?_
    refine v_aload_n 1 dX1_pass_16 rfl rfl ?_
    refine v_aload_n 0 dX1_pass_17 rfl rfl ?_
    refine p_geti (g := c) (k := 1) (q := p) (by omega) (c (58 + 10 * p + 1)) hH rfl (pF1 _ _) inX1_pass_X4 (by decide) (by decide +kernel) rfl dX1_pass_18 ?_
    refine v_topi (nI (liN c p)) (hq.2.1) ?_
    refine u_callVv [.int (nI (liN c p))] [] 1 (c_X1_lineOf lu Dg E N G shp σ hH c (k := liN c p) (by omega)) (ci := 1) (C := RX1) (T := TX1) (NF := 11) hH.n hH.s rfl gX1_pass_X1_lineOf rfl rfl rfl (by decide +kernel) rfl ⟨Nat.le_of_ble_eq_true rfl, Nat.le_of_ble_eq_true rfl⟩ ⟨Nat.le_of_ble_eq_true rfl, Nat.le_of_ble_eq_true rfl⟩ (Nat.le_of_ble_eq_true rfl) rfl dX1_pass_21 ?_
    refine v_astore_n [(3, .ref (G (b + 7 + 2 * (liN c p)))), (2, .ref (G (b + 13 + p))), (0, .ref (G b)), (1, .int (nI p))] dX1_pass_24 rfl (by decide) rfl ?_
    refine v_aload_n 2 dX1_pass_25 rfl rfl ?_
    refine v_iload_n 3 dX1_pass_26 rfl rfl ?_
    refine u_callVv [.int (nI p)] [] 1 (c_X1_placeOf lu Dg E N G shp σ hH c hI (p := p) h5.1 h5.2.1) (ci := 1) (C := RX1) (T := TX1) (NF := 11) hH.n hH.s rfl gX1_pass_X1_placeOf rfl rfl rfl (by decide +kernel) rfl ⟨Nat.le_of_ble_eq_true rfl, Nat.le_of_ble_eq_true rfl⟩ ⟨Nat.le_of_ble_eq_true rfl, Nat.le_of_ble_eq_true rfl⟩ (Nat.le_of_ble_eq_true rfl) rfl dX1_pass_27 ?_
    refine v_istore [(4, .int (nI (plc c p))), (3, .ref (G (b + 7 + 2 * (liN c p)))), (2, .ref (G (b + 13 + p))), (0, .ref (G b)), (1, .int (nI p))] dX1_pass_30 (by decide) rfl ?_
    refine v_aload_n 3 dX1_pass_32 rfl rfl ?_
    refine u_getr (k := 6) (C := RX1) (T := TX1) (NF := 11) hH.n hH.s rfl rfl inX1_pass_X1 (by decide) (by decide +kernel) rfl dX1_pass_33 ?_
    refine v_iconst (nI 3) dX1_pass_36 (by decide +kernel) ?_
    refine s_ld 3 hH (rfl) (by omega) dX1_pass_37 ?_
    refine v_topi (nI (tn (c 9))) (hI.jump) ?_
    refine v_iload 0 dX1_pass_38 rfl ?_
    refine v_mmin (by decide +kernel) (by decide +kernel) (by decide +kernel) (by decide +kernel) (Nat.le_of_ble_eq_true rfl) (Nat.le_of_ble_eq_true rfl) ⟨Nat.le_of_ble_eq_true rfl, Nat.le_of_ble_eq_true rfl⟩ dX1_pass_40 ?_
    refine v_topi (nI (min (tn (c 9)) (plc c p))) (min_nI (by omega) (by omega)) ?_
    refine v_topi (nI (jsteps c p)) (congrArg nI (by unfold jsteps; omega)) ?_
    refine v_istore [(5, .int (nI (jsteps c p))), (4, .int (nI (plc c p))), (3, .ref (G (b + 7 + 2 * (liN c p)))), (2, .ref (G (b + 13 + p))), (0, .ref (G b)), (1, .int (nI p))] dX1_pass_43 (by decide) rfl ?_
    refine v_iload 1 dX1_pass_45 rfl ?_
    refine v_σ (hs σ b (upd (jTo c (22 + 12 * liN c p) (plc c p) p 0) (22 + 12 * liN c p + (plc c p - 0)) (nI p))) (congrArg (fun z9 => hs σ b z9) ((by rw [jTo, Nat.sub_zero, ← hq.2.2.2.1, upd_same]))) ?_
    refine v_istore [(6, .int (nI (plc c p))), (5, .int (nI (jsteps c p))), (4, .int (nI (plc c p))), (3, .ref (G (b + 7 + 2 * (liN c p)))), (2, .ref (G (b + 13 + p))), (0, .ref (G b)), (1, .int (nI p))] dX1_pass_47 (by decide) rfl ?_
    refine v_loc [0, 1, 2, 3, 4, 6, 5] [(6, .int (nI (plc c p))), (5, .int (nI (jsteps c p))), (4, .int (nI (plc c p))), (3, .ref (G (b + 7 + 2 * (liN c p)))), (2, .ref (G (b + 13 + p))), (1, .int (nI p)), (0, .ref (G b))] rfl ?_
    refine u_loop1 (fun n (d : Nat) => d + n = jsteps c p) (fun (d : Nat) => hs σ b (upd (jTo c (22 + 12 * liN c p) (plc c p) p d) (22 + 12 * liN c p + (plc c p - d)) (nI p))) (fun (d : Nat) => [(6, .int (nI (plc c p - d))), (5, .int (nI (jsteps c p))), (4, .int (nI (plc c p))), (3, .ref (G (b + 7 + 2 * (liN c p)))), (2, .ref (G (b + 13 + p))), (1, .int (nI p)), (0, .ref (G b))]) (jsteps c p) 0 ((by omega)) ?_
    intro n d hL ih
    refine v_iload 0 dX1_pass_49 rfl ?_
    refine v_iload 2 dX1_pass_51 rfl ?_
    refine v_iload 1 dX1_pass_53 rfl ?_
    refine v_isubN (by omega) dX1_pass_55 ?_
    refine v_icmp_leN 92 (by omega) (by omega) dX1_pass_56 rfl (fun h56 => ?_) (fun h56 => ?_)
    · skip
      obtain rfl : d = jsteps c p := by omega
      refine v_σ (hs σ b (upd (jTo c (22 + 12 * liN c p) (plc c p) p (jsteps c p)) (22 + 12 * liN c p + plc c p - jsteps c p) (nI p))) (congrArg (fun z9 => hs σ b z9) ((by rw [Nat.add_sub_assoc hst]))) ?_
      refine v_aload_n 4 dX1_pass_92 rfl rfl ?_
      refine v_dup dX1_pass_93 rfl ?_
      generalize hg1 : upd (jTo c (22 + 12 * liN c p) (plc c p) p (jsteps c p)) (22 + 12 * liN c p + plc c p - jsteps c p) (nI p) = g1
      refine p_geti (g := g1) (k := 7) (q := p) (by omega) (g1 (58 + 10 * p + 7)) hH rfl (pF7 _ _) inX1_pass_X4 (by decide) (by decide +kernel) rfl dX1_pass_94 ?_
      refine v_iload 1 dX1_pass_97 rfl ?_
      refine v_isub dX1_pass_99 ?_
      refine p_puti (k := 7) (q := p) (by omega) hH rfl (hst_p7 (by omega) _) inX1_pass_X4 (by decide) (by decide +kernel) rfl rfl (by decide +kernel) dX1_pass_100 ?_
      generalize hg2 : upd g1 (58 + 10 * p + 7) ((g1 (58 + 10 * p + 7)) - (nI (jsteps c p))) = g2
      refine v_aload_n 4 dX1_pass_103 rfl rfl ?_
      refine v_aload_n 6 dX1_pass_104 rfl rfl ?_
      refine h_geti (g := g2) (k := 2) (g2 0) hH rfl (hF2 _) inX1_pass_X1 (by decide) (by decide +kernel) rfl dX1_pass_105 ?_
      refine p_puti (k := 8) (q := p) (by omega) hH rfl (hst_p8 (by omega) _) inX1_pass_X4 (by decide) (by decide +kernel) rfl rfl (by decide +kernel) dX1_pass_108 ?_
      generalize hg3 : upd g2 (58 + 10 * p + 8) (g2 0) = g3
      refine v_aload_n 6 dX1_pass_111 rfl rfl ?_
      refine v_dup dX1_pass_112 rfl ?_
      refine h_geti (g := g3) (k := 4) (g3 4) hH rfl (hF4 _) inX1_pass_X1 (by decide) (by decide +kernel) rfl dX1_pass_113 ?_
      refine v_iconst (nI 1) dX1_pass_116 (by decide +kernel) ?_
      refine v_iadd dX1_pass_117 ?_
      refine h_puti (k := 4) hH rfl (hst_h4 _) inX1_pass_X1 (by decide) (by decide +kernel) rfl rfl (by decide +kernel) dX1_pass_118 ?_
      generalize hg4 : upd g3 4 ((g3 4) + (nI 1)) = g4
      refine v_iload 1 dX1_pass_121 rfl ?_
      refine v_iret rfl dX1_pass_123 ⟨congrArg (fun z => some (Value.int z)) ?_, congrArg (φ shp) ?_⟩
      · exact (ic_t h5).symm
      · subst hg1; subst hg2; subst hg3; subst hg4; rw [ic_t h5]; simp only [jumpsS, jumpsF]
    · skip
      have hdl : plc c p - d - 1 < tn (c (13 + liN c p)) := by omega
      have hr := hI.row hq.1 hdl
      have hr2 := Nat.lt_of_lt_of_le (hI.rowP hq.1 hdl) hI.np30
      obtain ⟨q, hqe⟩ : ∃ q, q = tn (c (22 + 12 * liN c p + (plc c p - d - 1))) := ⟨_, rfl⟩
      rw [← hqe] at hr hr2
      have hjt : (jTo c (22 + 12 * liN c p) (plc c p) p d) (22 + 12 * liN c p + (plc c p - d) - 1) = nI q := by rw [jTo_out (by omega) (by omega) (fun j hj => by omega), ← hr]; congr 1; omega
      have hpq : p ≠ q := by intro e; have h9 := hI.D hq.1 hdl hpl (by rw [hr, hq.2.2.2.1, e]); omega
      have hSl : (upd (jTo c (22 + 12 * liN c p) (plc c p) p d) (22 + 12 * liN c p + (plc c p - d)) (nI p)) (13 + liN c p) = nI (tn (c (13 + liN c p))) := by rw [upd_ap, if_neg (by omega), jTo_out (by omega) (by omega) (fun j hj => by omega)]; exact hI.len hq.1
      have hSr : (upd (jTo c (22 + 12 * liN c p) (plc c p) p d) (22 + 12 * liN c p + (plc c p - d)) (nI p)) (22 + 12 * liN c p + (plc c p - d - 1)) = nI q := by rw [upd_ap, if_neg (by omega), ← hjt]; congr 1; omega
      refine v_aload_n 6 dX1_pass_59 rfl rfl ?_
      refine v_aload_n 4 dX1_pass_60 rfl rfl ?_
      refine v_aload_n 6 dX1_pass_61 rfl rfl ?_
      refine v_aload_n 3 dX1_pass_62 rfl rfl ?_
      refine v_iload 0 dX1_pass_63 rfl ?_
      refine v_iconst (nI 1) dX1_pass_65 (by decide +kernel) ?_
      refine v_isubN (by omega) dX1_pass_66 ?_
      refine u_callVv [.int (nI ((plc c p - d) - 1))] [.ref (G b), .ref (G (b + 13 + p)), .ref (G b)] 1 ((c_X3_who lu Dg E N G shp σ hH (upd (jTo c (22 + 12 * liN c p) (plc c p) p d) (22 + 12 * liN c p + (plc c p - d)) (nI p)) (l := liN c p) hl3 hSl hk12 (plc c p - d - 1) (by omega)).to (v' := some (.int (nI q))) (congrArg (fun z => some (Value.int z)) (by rw [ic_t hdl]; exact hSr)) rfl) (ci := 3) (C := RX3) (T := TX3) (NF := 5) (hH.li (l := liN c p) (by omega)).n (hH.li (l := liN c p) (by omega)).2.1 rfl gX1_pass_X3_who rfl rfl rfl (by decide +kernel) rfl ⟨Nat.le_of_ble_eq_true rfl, Nat.le_of_ble_eq_true rfl⟩ ⟨Nat.le_of_ble_eq_true rfl, Nat.le_of_ble_eq_true rfl⟩ (Nat.le_of_ble_eq_true rfl) rfl dX1_pass_67 ?_
      refine u_callVv [.int (nI q)] [.ref (G (b + 13 + p)), .ref (G b)] 1 (c_X1_personOf lu Dg E N G shp σ hH (upd (jTo c (22 + 12 * liN c p) (plc c p) p d) (22 + 12 * liN c p + (plc c p - d)) (nI p)) (k := q) (by omega)) (ci := 1) (C := RX1) (T := TX1) (NF := 11) hH.n hH.s rfl gX1_pass_X1_personOf rfl rfl rfl (by decide +kernel) rfl ⟨Nat.le_of_ble_eq_true rfl, Nat.le_of_ble_eq_true rfl⟩ ⟨Nat.le_of_ble_eq_true rfl, Nat.le_of_ble_eq_true rfl⟩ (Nat.le_of_ble_eq_true rfl) rfl dX1_pass_70 ?_
      refine u_callVn [.ref (G (b + 13 + p)), .ref (G (b + 13 + q))] [] 2 (c_X1_payForPassing lu Dg E N G shp σ hH (upd (jTo c (22 + 12 * liN c p) (plc c p) p d) (22 + 12 * liN c p + (plc c p - d)) (nI p)) (p := p) (q := q) hp30 hr2) (ci := 1) (C := RX1) (T := TX1) (NF := 11) hH.n hH.s rfl gX1_pass_X1_payForPassing rfl rfl rfl (by decide +kernel) rfl ⟨Nat.le_of_ble_eq_true rfl, Nat.le_of_ble_eq_true rfl⟩ ⟨Nat.le_of_ble_eq_true rfl, Nat.le_of_ble_eq_true rfl⟩ (Nat.le_of_ble_eq_true rfl) rfl dX1_pass_73 ?_
      refine v_aload_n 3 dX1_pass_76 rfl rfl ?_
      refine v_iload 0 dX1_pass_77 rfl ?_
      refine v_iconst (nI 1) dX1_pass_79 (by decide +kernel) ?_
      refine v_isubN (by omega) dX1_pass_80 ?_
      refine v_iload 0 dX1_pass_81 rfl ?_
      refine u_callVn [.int (nI ((plc c p - d) - 1)), .int (nI (plc c p - d))] [] 2 (c_X3_swap lu Dg E N G shp σ hH (payFor (upd (jTo c (22 + 12 * liN c p) (plc c p) p d) (22 + 12 * liN c p + (plc c p - d)) (nI p)) p q) (l := liN c p) hl3 (by rw [payFor_out (by omega) (by omega)]; exact hSl) hk12 (x := plc c p - d - 1) (y := plc c p - d) hdl (by omega)) (ci := 3) (C := RX3) (T := TX3) (NF := 5) (hH.li (l := liN c p) (by omega)).n (hH.li (l := liN c p) (by omega)).2.1 rfl gX1_pass_X3_swap rfl rfl rfl (by decide +kernel) rfl ⟨Nat.le_of_ble_eq_true rfl, Nat.le_of_ble_eq_true rfl⟩ ⟨Nat.le_of_ble_eq_true rfl, Nat.le_of_ble_eq_true rfl⟩ (Nat.le_of_ble_eq_true rfl) rfl dX1_pass_83 ?_
      refine v_σ (hs σ b (upd (jTo c (22 + 12 * liN c p) (plc c p) p (d + 1)) (22 + 12 * liN c p + (plc c p - (d + 1))) (nI p))) (congrArg (fun z9 => hs σ b z9) (by rw [jTo, ← Nat.sub_sub]; exact pass_step _ (by omega) (by omega) (by omega) hpq hjt hr2)) ?_
      refine v_iinc 0 (nI (plc c p - (d + 1))) [(6, .int (nI (plc c p - (d + 1)))), (5, .int (nI (jsteps c p))), (4, .int (nI (plc c p))), (3, .ref (G (b + 7 + 2 * (liN c p)))), (2, .ref (G (b + 13 + p))), (1, .int (nI p)), (0, .ref (G b))] dX1_pass_86 rfl (by rw [← Nat.sub_sub]; exact iincm (by omega)) (by decide) rfl ?_
      refine v_goto 49 dX1_pass_89 rfl ?_
      refine v_loc [0, 1, 2, 3, 4, 5, 6] [(6, .int (nI (plc c p - (d + 1)))), (5, .int (nI (jsteps c p))), (4, .int (nI (plc c p))), (3, .ref (G (b + 7 + 2 * (liN c p)))), (2, .ref (G (b + 13 + p))), (1, .int (nI p)), (0, .ref (G b))] rfl ?_
      exact ih _ (d + 1) (show n - 1 < n by omega) (by omega)
  · skip
    refine v_iconst ((-1)) dX1_pass_8 (by decide +kernel) ?_
    refine v_iret rfl dX1_pass_9 ⟨congrArg (fun z => some (Value.int z)) ?_, congrArg (φ shp) ?_⟩
    · exact (ic_f h5).symm
    · rw [ic_f h5]
