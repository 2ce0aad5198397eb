set_option maxRecDepth 100000 in
theorem inX1_trade_X1 : ∀ w ∈ wsX10, w ∈ wsX1_trade := by decide +kernel
set_option maxRecDepth 100000 in
theorem inX1_trade_X4 : ∀ w ∈ wsX40, w ∈ wsX1_trade := by decide +kernel
set_option maxHeartbeats 4000000 in
set_option maxRecDepth 100000 in
/-- Hall.trade -/
theorem c_X1_trade (lu : Launch) (Dg : va_G) (E : Nat → ClassId) (N : Nat) (G : Nat → Nat) (shp : Nat → (Nat → Int32) → va_E) (σ : Nat → Nat → Int32) {b : Nat} (hH : HallS E G shp N b) (c : Nat → Int32) {T : Nat} (hI : Inv T c) {p q : Nat} (hp : p < 2 ^ 31) (hq : q < 2 ^ 31)  : CS lu yX1_trade wsX1_trade { frames := 3, cells := 0, slots := 0, locals := 67 } Dg E N G shp (hs σ b c) [.ref (G b), .int (nI p), .int (nI q)] (some (.int (ic (p < tn (c 2) ∧ q < tn (c 2) ∧ MayX c p q) (nI (plc c p - plc c q) * c 8) (-1)))) (hs σ b (ic (p < tn (c 2) ∧ q < tn (c 2) ∧ MayX c p q) (exchS c p q) c)) := by
  refine CS.of (cc := cX1_trade) (maxL := 5) (ret := (some .int)) (by decide) rfl (Nat.le_of_ble_eq_true rfl) ?_
  intro p_ e_ s_ m_ args_ below_ meth_ c_
  refine v_eq (pc' := 0) (st' := []) rfl rfl ?_
  refine v_loc [0, 1, 2] [(0, .ref (G b)), (1, .int (nI p)), (2, .int (nI q))] rfl ?_
  refine v_aload_n 0 dX1_trade_0 rfl rfl ?_
  refine v_iload_n 1 dX1_trade_1 rfl rfl ?_
  refine v_iload_n 2 dX1_trade_2 rfl rfl ?_
  refine u_callVv [.int (nI p), .int (nI q)] [] 2 (c_X1_mayTrade lu Dg E N G shp σ hH c hI (p := p) (q := q) hp hq) (ci := 1) (C := RX1) (T := TX1) (NF := 11) hH.n hH.s rfl gX1_trade_X1_mayTrade rfl rfl rfl (by decide +kernel) rfl ⟨Nat.le_of_ble_eq_true rfl, Nat.le_of_ble_eq_true rfl⟩ ⟨Nat.le_of_ble_eq_true rfl, Nat.le_of_ble_eq_true rfl⟩ (Nat.le_of_ble_eq_true rfl) rfl dX1_trade_3 ?_
  refine v_if_neB 11 dX1_trade_6 rfl (fun h6 => ?_) (fun h6 => ?_)
  · skip
    have hqp := hI.plcs h6.1 h6.2.2.1
    have hqq := hI.plcs h6.2.1 h6.2.2.2.1
    have hp30 := Nat.lt_of_lt_of_le h6.1 hI.np30
    have hq30 := Nat.lt_of_lt_of_le h6.2.1 hI.np30
    have hkp := hqp.2.2.1
    have hk12 := hI.len12 hqp.1
    have hl3 := Nat.lt_of_lt_of_le hqp.1 hI.nl3
    have hlt := h6.2.2.2.2.2.1
    have hli : liN c q = liN c p := by show tn _ = tn _; rw [h6.2.2.2.2.1]
    have hrq := hqq.2.2.2.1
    rw [hli] at hrq
    refine v_aload_n 0 dX1_trade_11 rfl rfl ?_
    refine v_iload_n 1 dX1_trade_12 rfl rfl ?_
    refine u_callVv [.int (nI p)] [] 1 (c_X1_placeOf lu Dg E N G shp σ hH c hI (p := p) h6.1 h6.2.2.1) (ci := 1) (C := RX1) (T := TX1) (NF := 11) hH.n hH.s rfl gX1_trade_X1_placeOf rfl rfl rfl (by decide +kernel) rfl ⟨Nat.le_of_ble_eq_true rfl, Nat.le_of_ble_eq_true rfl⟩ ⟨Nat.le_of_ble_eq_true rfl, Nat.le_of_ble_eq_true rfl⟩ (Nat.le_of_ble_eq_true rfl) rfl dX1_trade_13 ?_
    refine v_aload_n 0 dX1_trade_16 rfl rfl ?_
    refine v_iload_n 2 dX1_trade_17 rfl rfl ?_
    refine u_callVv [.int (nI q)] [.int (nI (plc c p))] 1 (c_X1_placeOf lu Dg E N G shp σ hH c hI (p := q) h6.2.1 h6.2.2.2.1) (ci := 1) (C := RX1) (T := TX1) (NF := 11) hH.n hH.s rfl gX1_trade_X1_placeOf rfl rfl rfl (by decide +kernel) rfl ⟨Nat.le_of_ble_eq_true rfl, Nat.le_of_ble_eq_true rfl⟩ ⟨Nat.le_of_ble_eq_true rfl, Nat.le_of_ble_eq_true rfl⟩ (Nat.le_of_ble_eq_true rfl) rfl dX1_trade_18 ?_
    refine v_isubN (by omega) dX1_trade_21 ?_
    refine v_istore_n [(3, .int (nI ((plc c p) - (plc c q)))), (0, .ref (G b)), (1, .int (nI p)), (2, .int (nI q))] dX1_trade_22 rfl (by decide) rfl ?_
    refine v_aload_n 1 dX1_trade_23 rfl rfl ?_
    refine v_iload_n 0 dX1_trade_24 rfl rfl ?_
    refine u_callVv [.int (nI ((plc c p) - (plc c q)))] [] 1 (c_X1_priceOf lu Dg E N G shp σ hH c ((plc c p) - (plc c q))) (ci := 1) (C := RX1) (T := TX1) (NF := 11) hH.n hH.s rfl gX1_trade_X1_priceOf rfl rfl rfl (by decide +kernel) rfl ⟨Nat.le_of_ble_eq_true rfl, Nat.le_of_ble_eq_true rfl⟩ ⟨Nat.le_of_ble_eq_true rfl, Nat.le_of_ble_eq_true rfl⟩ (Nat.le_of_ble_eq_true rfl) rfl dX1_trade_25 ?_
    refine v_topi (nI (plc c p - plc c q) * c 8) (Int32.mul_comm _ _) ?_
    refine v_istore [(4, .int (nI (plc c p - plc c q) * c 8)), (3, .int (nI ((plc c p) - (plc c q)))), (0, .ref (G b)), (1, .int (nI p)), (2, .int (nI q))] dX1_trade_28 (by decide) rfl ?_
    refine v_aload_n 2 dX1_trade_30 rfl rfl ?_
    refine v_aload_n 2 dX1_trade_31 rfl rfl ?_
    refine v_iload_n 3 dX1_trade_32 rfl rfl ?_
    refine u_callVv [.int (nI p)] [.ref (G b)] 1 (c_X1_personOf lu Dg E N G shp σ hH c (k := p) (by omega)) (ci := 1) (C := RX1) (T := TX1) (NF := 11) hH.n hH.s rfl gX1_trade_X1_personOf rfl rfl rfl (by decide +kernel) rfl ⟨Nat.le_of_ble_eq_true rfl, Nat.le_of_ble_eq_true rfl⟩ ⟨Nat.le_of_ble_eq_true rfl, Nat.le_of_ble_eq_true rfl⟩ (Nat.le_of_ble_eq_true rfl) rfl dX1_trade_33 ?_
    refine p_geti (g := c) (k := 1) (q := p) (by omega) (c (58 + 10 * p + 1)) hH rfl (pF1 _ _) inX1_trade_X4 (by decide) (by decide +kernel) rfl dX1_trade_36 ?_
    refine v_topi (nI (liN c p)) (hqp.2.1) ?_
    refine u_callVv [.int (nI (liN c p))] [] 1 (c_X1_lineOf lu Dg E N G shp σ hH c (k := liN c p) (by omega)) (ci := 1) (C := RX1) (T := TX1) (NF := 11) hH.n hH.s rfl gX1_trade_X1_lineOf rfl rfl rfl (by decide +kernel) rfl ⟨Nat.le_of_ble_eq_true rfl, Nat.le_of_ble_eq_true rfl⟩ ⟨Nat.le_of_ble_eq_true rfl, Nat.le_of_ble_eq_true rfl⟩ (Nat.le_of_ble_eq_true rfl) rfl dX1_trade_39 ?_
    refine v_aload_n 2 dX1_trade_42 rfl rfl ?_
    refine v_iload_n 3 dX1_trade_43 rfl rfl ?_
    refine u_callVv [.int (nI p)] [.ref (G (b + 7 + 2 * (liN c p)))] 1 (c_X1_placeOf lu Dg E N G shp σ hH c hI (p := p) h6.1 h6.2.2.1) (ci := 1) (C := RX1) (T := TX1) (NF := 11) hH.n hH.s rfl gX1_trade_X1_placeOf rfl rfl rfl (by decide +kernel) rfl ⟨Nat.le_of_ble_eq_true rfl, Nat.le_of_ble_eq_true rfl⟩ ⟨Nat.le_of_ble_eq_true rfl, Nat.le_of_ble_eq_true rfl⟩ (Nat.le_of_ble_eq_true rfl) rfl dX1_trade_44 ?_
    refine v_aload_n 2 dX1_trade_47 rfl rfl ?_
    refine v_iload_n 4 dX1_trade_48 rfl rfl ?_
    refine u_callVv [.int (nI q)] [.int (nI (plc c p)), .ref (G (b + 7 + 2 * (liN c p)))] 1 (c_X1_placeOf lu Dg E N G shp σ hH c hI (p := q) h6.2.1 h6.2.2.2.1) (ci := 1) (C := RX1) (T := TX1) (NF := 11) hH.n hH.s rfl gX1_trade_X1_placeOf rfl rfl rfl (by decide +kernel) rfl ⟨Nat.le_of_ble_eq_true rfl, Nat.le_of_ble_eq_true rfl⟩ ⟨Nat.le_of_ble_eq_true rfl, Nat.le_of_ble_eq_true rfl⟩ (Nat.le_of_ble_eq_true rfl) rfl dX1_trade_49 ?_
    refine u_callVn [.int (nI (plc c p)), .int (nI (plc c q))] [] 2 (c_X3_swap lu Dg E N G shp σ hH c (l := liN c p) hl3 (hI.len hqp.1) hk12 (x := plc c p) (y := plc c q) hkp (by omega)) (ci := 3) (C := RX3) (T := TX3) (NF := 5) (hH.li (l := liN c p) (by omega)).n (hH.li (l := liN c p) (by omega)).2.1 rfl gX1_trade_X3_swap rfl rfl rfl (by decide +kernel) rfl ⟨Nat.le_of_ble_eq_true rfl, Nat.le_of_ble_eq_true rfl⟩ ⟨Nat.le_of_ble_eq_true rfl, Nat.le_of_ble_eq_true rfl⟩ (Nat.le_of_ble_eq_true rfl) rfl dX1_trade_52 ?_
    refine v_σ (hs σ b (upd (upd c (22 + 12 * liN c p + plc c p) (nI q)) (22 + 12 * liN c p + plc c q) (nI p))) (congrArg (fun z9 => hs σ b z9) ((by rw [hrq, hqp.2.2.2.1]))) ?_
    refine v_aload_n 2 dX1_trade_55 rfl rfl ?_
    refine v_iload_n 3 dX1_trade_56 rfl rfl ?_
    refine u_callVv [.int (nI p)] [] 1 (c_X1_personOf lu Dg E N G shp σ hH (upd (upd c (22 + 12 * liN c p + plc c p) (nI q)) (22 + 12 * liN c p + plc c q) (nI p)) (k := p) (by omega)) (ci := 1) (C := RX1) (T := TX1) (NF := 11) hH.n hH.s rfl gX1_trade_X1_personOf rfl rfl rfl (by decide +kernel) rfl ⟨Nat.le_of_ble_eq_true rfl, Nat.le_of_ble_eq_true rfl⟩ ⟨Nat.le_of_ble_eq_true rfl, Nat.le_of_ble_eq_true rfl⟩ (Nat.le_of_ble_eq_true rfl) rfl dX1_trade_57 ?_
    refine v_dup dX1_trade_60 rfl ?_
    generalize hg1 : upd (upd c (22 + 12 * liN c p + plc c p) (nI q)) (22 + 12 * liN c p + plc c q) (nI p) = g1
    refine p_geti (g := g1) (k := 4) (q := p) (by omega) (g1 (58 + 10 * p + 3)) hH rfl (pF4 _ _) inX1_trade_X4 (by decide) (by decide +kernel) rfl dX1_trade_61 ?_
    refine v_iload 0 dX1_trade_64 rfl ?_
    refine v_isub dX1_trade_66 ?_
    refine p_puti (k := 4) (q := p) (by omega) hH rfl (hst_p4 (by omega) _) inX1_trade_X4 (by decide) (by decide +kernel) rfl rfl (by decide +kernel) dX1_trade_67 ?_
    generalize hg2 : upd g1 (58 + 10 * p + 3) ((g1 (58 + 10 * p + 3)) - (nI (plc c p - plc c q) * c 8)) = g2
    refine v_aload_n 2 dX1_trade_70 rfl rfl ?_
    refine v_iload_n 4 dX1_trade_71 rfl rfl ?_
    refine u_callVv [.int (nI q)] [] 1 (c_X1_personOf lu Dg E N G shp σ hH g2 (k := q) (by omega)) (ci := 1) (C := RX1) (T := TX1) (NF := 11) hH.n hH.s rfl gX1_trade_X1_personOf rfl rfl rfl (by decide +kernel) rfl ⟨Nat.le_of_ble_eq_true rfl, Nat.le_of_ble_eq_true rfl⟩ ⟨Nat.le_of_ble_eq_true rfl, Nat.le_of_ble_eq_true rfl⟩ (Nat.le_of_ble_eq_true rfl) rfl dX1_trade_72 ?_
    refine v_dup dX1_trade_75 rfl ?_
    refine p_geti (g := g2) (k := 4) (q := q) (by omega) (g2 (58 + 10 * q + 3)) hH rfl (pF4 _ _) inX1_trade_X4 (by decide) (by decide +kernel) rfl dX1_trade_76 ?_
    refine v_iload 0 dX1_trade_79 rfl ?_
    refine v_iadd dX1_trade_81 ?_
    refine p_puti (k := 4) (q := q) (by omega) hH rfl (hst_p4 (by omega) _) inX1_trade_X4 (by decide) (by decide +kernel) rfl rfl (by decide +kernel) dX1_trade_82 ?_
    generalize hg3 : upd g2 (58 + 10 * q + 3) ((g2 (58 + 10 * q + 3)) + (nI (plc c p - plc c q) * c 8)) = g3
    refine v_aload_n 2 dX1_trade_85 rfl rfl ?_
    refine v_iload_n 3 dX1_trade_86 rfl rfl ?_
    refine u_callVv [.int (nI p)] [] 1 (c_X1_personOf lu Dg E N G shp σ hH g3 (k := p) (by omega)) (ci := 1) (C := RX1) (T := TX1) (NF := 11) hH.n hH.s rfl gX1_trade_X1_personOf rfl rfl rfl (by decide +kernel) rfl ⟨Nat.le_of_ble_eq_true rfl, Nat.le_of_ble_eq_true rfl⟩ ⟨Nat.le_of_ble_eq_true rfl, Nat.le_of_ble_eq_true rfl⟩ (Nat.le_of_ble_eq_true rfl) rfl dX1_trade_87 ?_
    refine v_dup dX1_trade_90 rfl ?_
    refine p_geti (g := g3) (k := 7) (q := p) (by omega) (g3 (58 + 10 * p + 7)) hH rfl (pF7 _ _) inX1_trade_X4 (by decide) (by decide +kernel) rfl dX1_trade_91 ?_
    refine v_iload_n 1 dX1_trade_94 rfl rfl ?_
    refine v_isub dX1_trade_95 ?_
    refine p_puti (k := 7) (q := p) (by omega) hH rfl (hst_p7 (by omega) _) inX1_trade_X4 (by decide) (by decide +kernel) rfl rfl (by decide +kernel) dX1_trade_96 ?_
    generalize hg4 : upd g3 (58 + 10 * p + 7) ((g3 (58 + 10 * p + 7)) - (nI ((plc c p) - (plc c q)))) = g4
    refine v_aload_n 2 dX1_trade_99 rfl rfl ?_
    refine v_iload_n 4 dX1_trade_100 rfl rfl ?_
    refine u_callVv [.int (nI q)] [] 1 (c_X1_personOf lu Dg E N G shp σ hH g4 (k := q) (by omega)) (ci := 1) (C := RX1) (T := TX1) (NF := 11) hH.n hH.s rfl gX1_trade_X1_personOf rfl rfl rfl (by decide +kernel) rfl ⟨Nat.le_of_ble_eq_true rfl, Nat.le_of_ble_eq_true rfl⟩ ⟨Nat.le_of_ble_eq_true rfl, Nat.le_of_ble_eq_true rfl⟩ (Nat.le_of_ble_eq_true rfl) rfl dX1_trade_101 ?_
    refine v_dup dX1_trade_104 rfl ?_
    refine p_geti (g := g4) (k := 7) (q := q) (by omega) (g4 (58 + 10 * q + 7)) hH rfl (pF7 _ _) inX1_trade_X4 (by decide) (by decide +kernel) rfl dX1_trade_105 ?_
    refine v_iload_n 1 dX1_trade_108 rfl rfl ?_
    refine v_iadd dX1_trade_109 ?_
    refine p_puti (k := 7) (q := q) (by omega) hH rfl (hst_p7 (by omega) _) inX1_trade_X4 (by decide) (by decide +kernel) rfl rfl (by decide +kernel) dX1_trade_110 ?_
    generalize hg5 : upd g4 (58 + 10 * q + 7) ((g4 (58 + 10 * q + 7)) + (nI ((plc c p) - (plc c q)))) = g5
    refine v_aload_n 2 dX1_trade_113 rfl rfl ?_
    refine v_dup dX1_trade_114 rfl ?_
    refine h_geti (g := g5) (k := 3) (g5 3) hH rfl (hF3 _) inX1_trade_X1 (by decide) (by decide +kernel) rfl dX1_trade_115 ?_
    refine v_iconst (nI 1) dX1_trade_118 (by decide +kernel) ?_
    refine v_iadd dX1_trade_119 ?_
    refine h_puti (k := 3) hH rfl (hst_h3 _) inX1_trade_X1 (by decide) (by decide +kernel) rfl rfl (by decide +kernel) dX1_trade_120 ?_
    generalize hg6 : upd g5 3 ((g5 3) + (nI 1)) = g6
    refine v_iload 0 dX1_trade_123 rfl ?_
    refine v_iret rfl dX1_trade_125 ⟨congrArg (fun z => some (Value.int z)) ?_, congrArg (φ shp) ?_⟩
    · exact (ic_t h6).symm
    · subst hg1; subst hg2; subst hg3; subst hg4; subst hg5; subst hg6; rw [ic_t h6]; simp only [exchS, exchF]
  · skip
    refine v_iconst ((-1)) dX1_trade_9 (by decide +kernel) ?_
    refine v_iret rfl dX1_trade_10 ⟨congrArg (fun z => some (Value.int z)) ?_, congrArg (φ shp) ?_⟩
    · exact (ic_f h6).symm
    · rw [ic_f h6]
