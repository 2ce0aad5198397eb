theorem mvF_eq (t : Nat → Int32) (l o k n : Nat) {q : Nat} (hq : tn (t (22 + 12 * o + k)) = q) : mvF t l o k n = upd (upd (upd t (58 + 10 * q + 1) (nI l)) (22 + 12 * l + n) (nI q)) (13 + l) (nI (n + 1)) := by unfold mvF; rw [hq]
/-- the class sorts, and so does the reference -/
theorem Inv.unite {T : Nat} {s : Nat → Int32} {l o : Nat} (h : Inv T s) (hl : l < tn (s 1)) (ho : o < tn (s 1)) (hlo : l ≠ o) (hab : tn (s (13 + l)) + tn (s (13 + o)) ≤ 12) : rwF (mid s l o) (22 + 12 * l) (tn (s (13 + l)) + tn (s (13 + o))) (isort (keyN (mid s l o)) (rowN (mid s l o) l) (tn (s (13 + l)) + tn (s (13 + o)) - 1)) = mergesF s l o := by
  have hnl3 := h.nl3
  have hm := h.midK hl ho hlo hab
  have e1 : mid s l o 1 = s 1 := by rw [mid_h h hl ho hlo hab (by omega), if_neg (by omega), if_neg (by omega), if_neg (by omega), if_neg (by omega)]
  have e13 : tn (mid s l o (13 + l)) = tn (s (13 + l)) + tn (s (13 + o)) := by
    rw [mid_h h hl ho hlo hab (by omega), if_neg (by omega), if_neg (by omega), if_pos rfl]; exact tn_nI (by omega)
  have hi := hm.rowInj (l := l) (by rw [e1]; exact hl)
  rw [e13] at hi
  rw [h.merges_eq hl ho hlo hab, srtS, e13]
  by_cases hz : 0 < tn (s (13 + l)) + tn (s (13 + o))
  · rw [sorts_same hi hz]
  · have hz0 : tn (s (13 + l)) + tn (s (13 + o)) = 0 := by omega
    rw [hz0]; rfl
set_option maxRecDepth 100000 in
theorem inX1_unite_X3 : ∀ w ∈ wsX30, w ∈ wsX1_unite := by decide +kernel
set_option maxRecDepth 100000 in
theorem inX1_unite_X4 : ∀ w ∈ wsX40, w ∈ wsX1_unite := by decide +kernel
set_option maxHeartbeats 4000000 in
set_option maxRecDepth 100000 in
/-- Hall.unite -/
theorem c_X1_unite (lu : Launch) (Dg : va_G) (E : Nat → ClassId) (N : Nat) (G : Nat → Nat) (shp : Nat → (Nat → Int32) → va_E) (σ : Nat → Nat → Int32) {b : Nat} (hH : HallS E G shp N b) (c : Nat → Int32) {T : Nat} (hI : Inv T c) {y o : Nat} (hy : y < 2 ^ 31) (ho : o < 2 ^ 31)  : CS lu yX1_unite wsX1_unite { frames := 3, cells := 0, slots := 0, locals := 67 } Dg E N G shp (hs σ b c) [.ref (G b), .int (nI y), .int (nI o)] (some (.int (ic (mergeFl c (nI y) (nI o) = 0) (nI (tn (c (13 + y)) + tn (c (13 + o)))) (-1)))) (hs σ b (ic (mergeFl c (nI y) (nI o) = 0) (mergesF c y o) c)) := by
  refine CS.of (cc := cX1_unite) (maxL := 6) (ret := (some .int)) (by decide) rfl (Nat.le_of_ble_eq_true rfl) ?_
  intro p_ e_ s_ m_ args_ below_ meth_ c_
  refine v_eq (pc' := 0) (st' := []) rfl rfl ?_
  refine v_loc [0, 1, 2] [(0, .ref (G b)), (1, .int (nI y)), (2, .int (nI o))] rfl ?_
  refine v_aload_n 0 dX1_unite_0 rfl rfl ?_
  refine v_iload_n 1 dX1_unite_1 rfl rfl ?_
  refine v_iload_n 2 dX1_unite_2 rfl rfl ?_
  refine u_callVv [.int (nI y), .int (nI o)] [] 2 (c_X1_mayUnite lu Dg E N G shp σ hH c hI (y := y) (o := o) hy ho) (ci := 1) (C := RX1) (T := TX1) (NF := 11) hH.n hH.s rfl gX1_unite_X1_mayUnite rfl rfl rfl (by decide +kernel) rfl ⟨Nat.le_of_ble_eq_true rfl, Nat.le_of_ble_eq_true rfl⟩ ⟨Nat.le_of_ble_eq_true rfl, Nat.le_of_ble_eq_true rfl⟩ (Nat.le_of_ble_eq_true rfl) rfl dX1_unite_3 ?_
  refine v_if_neB 11 dX1_unite_6 rfl (fun h6 => ?_) (fun h6 => ?_)
  · skip
    have hkm := merge_ok hI hy ho h6
    have hnl3 := hI.nl3
    have hy3 : y < 3 := Nat.lt_of_lt_of_le hkm.1 hnl3
    have ho3 : o < 3 := Nat.lt_of_lt_of_le hkm.2.1 hnl3
    have ha12 := hI.len12 hkm.1
    have hb12 := hI.len12 hkm.2.1
    have hyo := hkm.2.2.1
    have hab := hkm.2.2.2
    obtain ⟨na, hna⟩ : ∃ na, tn (c (13 + y)) = na := ⟨_, rfl⟩
    obtain ⟨nb, hnb⟩ : ∃ nb, tn (c (13 + o)) = nb := ⟨_, rfl⟩
    have hrow : ∀ x, x < nb → c (22 + 12 * o + x) = nI (tn (c (22 + 12 * o + x))) ∧ tn (c (22 + 12 * o + x)) < 30 := fun x hx => ⟨hI.row hkm.2.1 (by rw [hnb]; exact hx), Nat.lt_of_lt_of_le (hI.rowP hkm.2.1 (by rw [hnb]; exact hx)) hI.np30⟩
    have hla : c (13 + y) = nI na := by rw [← hna]; exact hI.len hkm.1
    have hlb : c (13 + o) = nI nb := by rw [← hnb]; exact hI.len hkm.2.1
    rw [hna, hnb] at hab
    rw [hna] at ha12
    rw [hnb] at hb12
    refine v_aload_n 0 dX1_unite_11 rfl rfl ?_
    refine v_iload_n 1 dX1_unite_12 rfl rfl ?_
    refine u_callVv [.int (nI y)] [] 1 (c_X1_lineOf lu Dg E N G shp σ hH c (k := y) (by omega)) (ci := 1) (C := RX1) (T := TX1) (NF := 11) hH.n hH.s rfl gX1_unite_X1_lineOf rfl rfl rfl (by decide +kernel) rfl ⟨Nat.le_of_ble_eq_true rfl, Nat.le_of_ble_eq_true rfl⟩ ⟨Nat.le_of_ble_eq_true rfl, Nat.le_of_ble_eq_true rfl⟩ (Nat.le_of_ble_eq_true rfl) rfl dX1_unite_13 ?_
    refine v_astore_n [(3, .ref (G (b + 7 + 2 * y))), (0, .ref (G b)), (1, .int (nI y)), (2, .int (nI o))] dX1_unite_16 rfl (by decide) rfl ?_
    refine v_aload_n 1 dX1_unite_17 rfl rfl ?_
    refine v_iload_n 3 dX1_unite_18 rfl rfl ?_
    refine u_callVv [.int (nI o)] [] 1 (c_X1_lineOf lu Dg E N G shp σ hH c (k := o) (by omega)) (ci := 1) (C := RX1) (T := TX1) (NF := 11) hH.n hH.s rfl gX1_unite_X1_lineOf rfl rfl rfl (by decide +kernel) rfl ⟨Nat.le_of_ble_eq_true rfl, Nat.le_of_ble_eq_true rfl⟩ ⟨Nat.le_of_ble_eq_true rfl, Nat.le_of_ble_eq_true rfl⟩ (Nat.le_of_ble_eq_true rfl) rfl dX1_unite_19 ?_
    refine v_astore [(4, .ref (G (b + 7 + 2 * o))), (3, .ref (G (b + 7 + 2 * y))), (0, .ref (G b)), (1, .int (nI y)), (2, .int (nI o))] dX1_unite_22 (by decide) rfl ?_
    refine v_σ (hs σ b (mvTo c y o na 0)) (congrArg (fun z9 => hs σ b z9) (rfl)) ?_
    refine v_iconst (nI 0) dX1_unite_24 (by decide +kernel) ?_
    refine v_istore [(5, .int (nI 0)), (4, .ref (G (b + 7 + 2 * o))), (3, .ref (G (b + 7 + 2 * y))), (0, .ref (G b)), (1, .int (nI y)), (2, .int (nI o))] dX1_unite_25 (by decide) rfl ?_
    refine v_loc [0, 1, 2, 5, 4, 3] [(5, .int (nI 0)), (4, .ref (G (b + 7 + 2 * o))), (3, .ref (G (b + 7 + 2 * y))), (2, .int (nI o)), (1, .int (nI y)), (0, .ref (G b))] rfl ?_
    refine u_loop1 (fun n (k : Nat) => k + n = nb) (fun (k : Nat) => hs σ b (mvTo c y o na k)) (fun (k : Nat) => [(5, .int (nI k)), (4, .ref (G (b + 7 + 2 * o))), (3, .ref (G (b + 7 + 2 * y))), (2, .int (nI o)), (1, .int (nI y)), (0, .ref (G b))]) (nb) 0 ((by omega)) ?_
    intro n k hL ih
    refine v_iload 0 dX1_unite_27 rfl ?_
    refine v_aload 1 dX1_unite_29 rfl ?_
    refine l_geti (g := (mvTo c y o na k)) (k := 3) (y := o) (by omega) ((mvTo c y o na k) (13 + o)) hH rfl (lF3 _ _) inX1_unite_X3 (by decide) (by decide +kernel) rfl dX1_unite_31 ?_
    refine v_topi (nI nb) ((by rw [mvTo_h hy3 ho3 hyo (by omega) _ (by omega), if_neg (by omega), if_neg (by omega)]; exact hlb)) ?_
    refine v_icmp_geN 69 (by omega) (by omega) dX1_unite_34 rfl (fun h34 => ?_) (fun h34 => ?_)
    · skip
      have hkn : k = nb := by omega
      refine v_σ (hs σ b (mvTo c y o na nb)) (congrArg (fun z9 => hs σ b z9) ((by rw [hkn]))) ?_
      refine v_aload 1 dX1_unite_69 rfl ?_
      refine v_iconst (nI 0) dX1_unite_71 (by decide +kernel) ?_
      refine l_puti (k := 3) (y := o) (by omega) hH rfl (hst_l3 (by omega) _) inX1_unite_X3 (by decide) (by decide +kernel) rfl rfl (by decide +kernel) dX1_unite_72 ?_
      generalize hg1 : upd (mvTo c y o na nb) (13 + o) (nI 0) = g1
      refine v_aload 1 dX1_unite_75 rfl ?_
      refine v_iconst (nI 0) dX1_unite_77 (by decide +kernel) ?_
      refine l_puti (k := 1) (y := o) (by omega) hH rfl (hst_l1 (by omega) _) inX1_unite_X3 (by decide) (by decide +kernel) rfl rfl (by decide +kernel) dX1_unite_78 ?_
      generalize hg2 : upd g1 (16 + o) (nI 0) = g2
      refine v_σ (hs σ b (mid c y o)) (congrArg (fun z9 => hs σ b z9) ((by subst hg1; subst hg2; unfold mid; rw [hna, hnb]))) ?_
      have hk0 := (hI.midK hkm.1 hkm.2.1 hyo hkm.2.2.2).keys (l := y) (by rw [mid_h hI hkm.1 hkm.2.1 hyo hkm.2.2.2 (by omega), if_neg (by omega), if_neg (by omega), if_neg (by omega), if_neg (by omega)]; exact hkm.1)
      have hrr := (hI.midK hkm.1 hkm.2.1 hyo hkm.2.2.2).rowRw (l := y) (by rw [mid_h hI hkm.1 hkm.2.1 hyo hkm.2.2.2 (by omega), if_neg (by omega), if_neg (by omega), if_neg (by omega), if_neg (by omega)]; exact hkm.1)
      have hm13 : (mid c y o) (13 + y) = nI (na + nb) := by rw [mid_h hI hkm.1 hkm.2.1 hyo hkm.2.2.2 (by omega), if_neg (by omega), if_neg (by omega), if_pos rfl, hna, hnb]
      rw [hm13, tn_nI (by omega)] at hk0 hrr
      have hun := hI.unite hkm.1 hkm.2.1 hyo hkm.2.2.2
      rw [hna, hnb] at hun
      refine v_σ (hs σ b (rwF (mid c y o) (22 + 12 * y) (na + nb) (rowN (mid c y o) y))) (congrArg (fun z9 => hs σ b z9) (hrr.symm)) ?_
      refine v_aload_n 5 dX1_unite_81 rfl rfl ?_
      refine v_aload_n 2 dX1_unite_82 rfl rfl ?_
      refine u_callVn [.ref (G (b + 7 + 2 * y))] [] 1 (c_X1_sortByStanding lu Dg E N G shp σ hH (mid c y o) (l := y) hy3 (M := (na + nb)) hm13 (by omega) hk0) (ci := 1) (C := RX1) (T := TX1) (NF := 11) hH.n hH.s rfl gX1_unite_X1_sortByStanding rfl rfl rfl (by decide +kernel) rfl ⟨Nat.le_of_ble_eq_true rfl, Nat.le_of_ble_eq_true rfl⟩ ⟨Nat.le_of_ble_eq_true rfl, Nat.le_of_ble_eq_true rfl⟩ (Nat.le_of_ble_eq_true rfl) rfl dX1_unite_83 ?_
      refine v_σ (hs σ b (mergesF c y o)) (congrArg (fun z9 => hs σ b z9) (hun)) ?_
      refine v_aload_n 2 dX1_unite_86 rfl rfl ?_
      refine l_geti (g := (mergesF c y o)) (k := 3) (y := y) (by omega) ((mergesF c y o) (13 + y)) hH rfl (lF3 _ _) inX1_unite_X3 (by decide) (by decide +kernel) rfl dX1_unite_87 ?_
      refine v_topi (nI ((na + nb))) ((by rw [hI.merges_h hkm.1 hkm.2.1 hyo hkm.2.2.2 (by omega), if_neg (by omega), if_neg (by omega), if_pos rfl, hna, hnb])) ?_
      refine v_iret rfl dX1_unite_90 ⟨congrArg (fun z => some (Value.int z)) ?_, congrArg (φ shp) ?_⟩
      · rw [ic_t h6, hna, hnb]
      · rw [ic_t h6]
    · skip
      obtain ⟨q, hqe⟩ : ∃ q, tn (c (22 + 12 * o + k)) = q := ⟨_, rfl⟩
      have hq1 := (hrow k (by omega)).1
      have hq2 := (hrow k (by omega)).2
      rw [hqe] at hq1 hq2
      have hmo : (mvTo c y o na k) (22 + 12 * o + k) = nI q := by rw [mvTo_o hy3 ho3 hyo (by omega) (by omega)]; exact hq1
      have hmb : (mvTo c y o na k) (13 + o) = nI nb := by rw [mvTo_h hy3 ho3 hyo (by omega) _ (by omega), if_neg (by omega), if_neg (by omega)]; exact hlb
      have hma : (mvTo c y o na k) (13 + y) = nI (na + k) := by rw [mvTo_h hy3 ho3 hyo (by omega) _ (by omega)]; by_cases hk0 : 0 < k; rw [if_pos ⟨rfl, hk0⟩]; rw [if_neg (fun z => hk0 z.2), if_neg (by omega), hla]; congr 1; omega
      refine v_aload_n 5 dX1_unite_37 rfl rfl ?_
      refine v_aload 1 dX1_unite_38 rfl ?_
      refine v_iload 0 dX1_unite_40 rfl ?_
      refine u_callVv [.int (nI k)] [.ref (G b)] 1 ((c_X3_who lu Dg E N G shp σ hH (mvTo c y o na k) (l := o) ho3 hmb hb12 k (by omega)).to (v' := some (.int (nI q))) (congrArg (fun z => some (Value.int z)) (by rw [ic_t (by omega)]; exact hmo)) rfl) (ci := 3) (C := RX3) (T := TX3) (NF := 5) (hH.li (l := o) (by omega)).n (hH.li (l := o) (by omega)).2.1 rfl gX1_unite_X3_who rfl rfl rfl (by decide +kernel) rfl ⟨Nat.le_of_ble_eq_true rfl, Nat.le_of_ble_eq_true rfl⟩ ⟨Nat.le_of_ble_eq_true rfl, Nat.le_of_ble_eq_true rfl⟩ (Nat.le_of_ble_eq_true rfl) rfl dX1_unite_42 ?_
      refine u_callVv [.int (nI q)] [] 1 (c_X1_personOf lu Dg E N G shp σ hH (mvTo c y o na k) (k := q) (by omega)) (ci := 1) (C := RX1) (T := TX1) (NF := 11) hH.n hH.s rfl gX1_unite_X1_personOf rfl rfl rfl (by decide +kernel) rfl ⟨Nat.le_of_ble_eq_true rfl, Nat.le_of_ble_eq_true rfl⟩ ⟨Nat.le_of_ble_eq_true rfl, Nat.le_of_ble_eq_true rfl⟩ (Nat.le_of_ble_eq_true rfl) rfl dX1_unite_45 ?_
      refine v_iload_n 4 dX1_unite_48 rfl rfl ?_
      refine p_puti (k := 1) (q := q) (by omega) hH rfl (hst_p1 (by omega) _) inX1_unite_X4 (by decide) (by decide +kernel) rfl rfl (by decide +kernel) dX1_unite_49 ?_
      generalize hg3 : upd (mvTo c y o na k) (58 + 10 * q + 1) (nI y) = g3
      have hg13 : g3 (13 + o) = nI nb := by rw [← hg3, upd_ap, if_neg (by omega)]; exact hmb
      have hg22 : g3 (22 + 12 * o + k) = nI q := by rw [← hg3, upd_ap, if_neg (by omega)]; exact hmo
      have hgy : g3 (13 + y) = nI (na + k) := by rw [← hg3, upd_ap, if_neg (by omega)]; exact hma
      refine v_aload_n 2 dX1_unite_52 rfl rfl ?_
      refine v_aload 1 dX1_unite_53 rfl ?_
      refine v_iload 0 dX1_unite_55 rfl ?_
      refine u_callVv [.int (nI k)] [.ref (G (b + 7 + 2 * y))] 1 ((c_X3_who lu Dg E N G shp σ hH g3 (l := o) ho3 hg13 hb12 k (by omega)).to (v' := some (.int (nI q))) (congrArg (fun z => some (Value.int z)) (by rw [ic_t (by omega)]; exact hg22)) rfl) (ci := 3) (C := RX3) (T := TX3) (NF := 5) (hH.li (l := o) (by omega)).n (hH.li (l := o) (by omega)).2.1 rfl gX1_unite_X3_who rfl rfl rfl (by decide +kernel) rfl ⟨Nat.le_of_ble_eq_true rfl, Nat.le_of_ble_eq_true rfl⟩ ⟨Nat.le_of_ble_eq_true rfl, Nat.le_of_ble_eq_true rfl⟩ (Nat.le_of_ble_eq_true rfl) rfl dX1_unite_57 ?_
      refine u_callVn [.int (nI q)] [] 1 (c_X3_add lu Dg E N G shp σ hH g3 (l := y) hy3 (len := na + k) hgy (by omega) (nI q)) (ci := 3) (C := RX3) (T := TX3) (NF := 5) (hH.li (l := y) (by omega)).n (hH.li (l := y) (by omega)).2.1 rfl gX1_unite_X3_add rfl rfl rfl (by decide +kernel) rfl ⟨Nat.le_of_ble_eq_true rfl, Nat.le_of_ble_eq_true rfl⟩ ⟨Nat.le_of_ble_eq_true rfl, Nat.le_of_ble_eq_true rfl⟩ (Nat.le_of_ble_eq_true rfl) rfl dX1_unite_60 ?_
      refine v_σ (hs σ b (mvTo c y o na (k + 1))) (congrArg (fun z9 => hs σ b z9) ((by subst hg3; rw [mvTo, mvF_eq _ _ _ _ _ (q := q) (by rw [hmo]; exact tn_nI (by omega))]))) ?_
      refine v_iincN 0 [(5, .int (nI (k + 1))), (4, .ref (G (b + 7 + 2 * o))), (3, .ref (G (b + 7 + 2 * y))), (2, .int (nI o)), (1, .int (nI y)), (0, .ref (G b))] dX1_unite_63 rfl (by decide) rfl ?_
      refine v_goto 27 dX1_unite_66 rfl ?_
      refine v_loc [0, 1, 2, 3, 4, 5] [(5, .int (nI (k + 1))), (4, .ref (G (b + 7 + 2 * o))), (3, .ref (G (b + 7 + 2 * y))), (2, .int (nI o)), (1, .int (nI y)), (0, .ref (G b))] rfl ?_
      exact ih _ (k + 1) (show n - 1 < n by omega) (by omega)
  · skip
    refine v_iconst ((-1)) dX1_unite_9 (by decide +kernel) ?_
    refine v_iret rfl dX1_unite_10 ⟨congrArg (fun z => some (Value.int z)) ?_, congrArg (φ shp) ?_⟩
    · exact (ic_f h6).symm
    · rw [ic_f h6]
