theorem tn_lt (x : Int32) : tn x < 2 ^ 31 := by
  have h := Int32.toInt_lt x
  show x.toInt.toNat < 2 ^ 31
  omega
theorem mvF_eq (t : Nat → Int32) (l o k n : Nat) {q : Nat} (hq : tn (t (22 + 12 * o + k)) = q) : mvF t l o k n = upd (upd (upd t (58 + 10 * q + 1) (nI l)) (22 + 12 * l + n) (nI q)) (13 + l) (nI (n + 1)) := by unfold mvF; rw [hq]
/-- the class sorts, and so does the reference -/
theorem Inv.unite {T : Nat} {s : Nat → Int32} {l o : Nat} (h : Inv T s) (hl : l < tn (s 1)) (ho : o < tn (s 1)) (hlo : l ≠ o) (hab : tn (s (13 + l)) + tn (s (13 + o)) ≤ 12) : rwF (mid s l o) (22 + 12 * l) (tn (s (13 + l)) + tn (s (13 + o))) (isort (keyN (mid s l o)) (rowN (mid s l o) l) (tn (s (13 + l)) + tn (s (13 + o)) - 1)) = mergesF s l o := by
  have hnl3 := h.nl3
  have hm := h.midK hl ho hlo hab
  have e1 : mid s l o 1 = s 1 := by rw [mid_h h hl ho hlo hab (by omega), if_neg (by omega), if_neg (by omega), if_neg (by omega), if_neg (by omega)]
  have e13 : tn (mid s l o (13 + l)) = tn (s (13 + l)) + tn (s (13 + o)) := by
    rw [mid_h h hl ho hlo hab (by omega), if_neg (by omega), if_neg (by omega), if_pos rfl]; exact tn_nI (by omega)
  have hi := hm.rowInj (l := l) (by rw [e1]; exact hl)
  rw [e13] at hi
  rw [h.merges_eq hl ho hlo hab, srtS, e13]
  by_cases hz : 0 < tn (s (13 + l)) + tn (s (13 + o))
  · rw [sorts_same hi hz]
  · have hz0 : tn (s (13 + l)) + tn (s (13 + o)) = 0 := by omega
    rw [hz0]; rfl
set_option maxRecDepth 100000 in
theorem inX1_unite_X3 : ∀ w ∈ wsX30, w ∈ wsX1_unite := by decide +kernel
set_option maxRecDepth 100000 in
theorem inX1_unite_X4 : ∀ w ∈ wsX40, w ∈ wsX1_unite := by decide +kernel
set_option maxHeartbeats 4000000 in
set_option maxRecDepth 100000 in
/-- Hall.unite -/
theorem c_X1_unite (lu : Launch) (Dg : va_G) (E : Nat → ClassId) (N : Nat) (G : Nat → Nat) (shp : Nat → (Nat → Int32) → va_E) (σ : Nat → Nat → Int32) {b : Nat} (hH : HallS E G shp N b) (c : Nat → Int32) {T : Nat} (hI : Inv T c) {y o : Nat} (hy : y < 2 ^ 31) (ho : o < 2 ^ 31)  : CS lu yX1_unite wsX1_unite { frames := 3, cells := 0, slots := 0, locals := 67 } Dg E N G shp (hs σ b c) [.ref (G b), .int (nI y), .int (nI o)] (some (.int (ic (mergeFl c (nI y) (nI o) = 0) (nI (tn (c (13 + y)) + tn (c (13 + o)))) (-1)))) (hs σ b (ic (mergeFl c (nI y) (nI o) = 0) (mergesF c y o) c)) := by
  refine CS.of (cc := cX1_unite) (maxL := 6) (ret := (some .int)) (by decide) rfl (Nat.le_of_ble_eq_true rfl) ?_
  intro p_ e_ s_ m_ args_ below_ meth_ c_
  refine v_eq (pc' := 0) (st' := []) rfl rfl ?_
  refine v_loc [0, 1, 2] [(0, .ref (G b)), (1, .int (nI y)), (2, .int (nI o))] rfl ?_
  refine v_aload_n 0 dX1_unite_0 rfl rfl ?_
  refine v_iload_n 1 dX1_unite_1 rfl rfl ?_
  refine v_iload_n 2 dX1_unite_2 rfl rfl ?_
  refine u_callVv [.int (nI y), .int (nI o)] [] 2 (c_X1_mayUnite lu Dg E N G shp σ hH c hI (y := y) (o := o) hy ho) (ci := 1) (C := RX1) (T := TX1) (NF := 11) hH.n hH.s rfl gX1_unite_X1_mayUnite rfl rfl rfl (by decide +kernel) rfl ⟨Nat.le_of_ble_eq_true rfl, Nat.le_of_ble_eq_true rfl⟩ ⟨Nat.le_of_ble_eq_true rfl, Nat.le_of_ble_eq_true rfl⟩ (Nat.le_of_ble_eq_true rfl) rfl dX1_unite_3 ?_
  refine v_if_neB 11 dX1_unite_6 rfl (fun h6 => ?_) (fun h6 => ?_)
  · skip
    have hkm := merge_ok hI hy ho h6
    have hnl3 := hI.nl3
    have hy3 : y < 3 := Nat.lt_of_lt_of_le hkm.1 hnl3
    have ho3 : o < 3 := Nat.lt_of_lt_of_le hkm.2.1 hnl3
    have ha12 := hI.len12 hkm.1
    have hb12 := hI.len12 hkm.2.1
    have hyo := hkm.2.2.1
    have hab := hkm.2.2.2
    obtain ⟨na, hna⟩ : ∃ na, tn (c (13 + y)) = na := ⟨_, rfl⟩
    obtain ⟨nb, hnb⟩ : ∃ nb, tn (c (13 + o)) = nb := ⟨_, rfl⟩
    have hrow : ∀ x, x < nb → c (22 + 12 * o + x) = nI (tn (c (22 + 12 * o + x))) ∧ tn (c (22 + 12 * o + x)) < 30 := fun x hx => ⟨hI.row hkm.2.1 (by rw [hnb]; exact hx), Nat.lt_of_lt_of_le (hI.rowP hkm.2.1 (by rw [hnb]; exact hx)) hI.np30⟩
    have hla : c (13 + y) = nI na := by rw [← hna]; exact hI.len hkm.1
    have hlb : c (13 + o) = nI nb := by rw [← hnb]; exact hI.len hkm.2.1
    rw [hna, hnb] at hab
    rw [hna] at ha12
    rw [hnb] at hb12
    refine v_aload_n 0 dX1_unite_11 rfl rfl ?_
    refine v_iload_n 1 dX1_unite_12 rfl rfl ?_
    refine u_callVv [.int (nI y)] [] 1 (c_X1_lineOf lu Dg E N G shp σ hH c (k := y) (by omega)) (ci := 1) (C := RX1) (T := TX1) (NF := 11) hH.n hH.s rfl gX1_unite_X1_lineOf rfl rfl rfl (by decide +kernel) rfl ⟨Nat.le_of_ble_eq_true rfl, Nat.le_of_ble_eq_true rfl⟩ ⟨Nat.le_of_ble_eq_true rfl, Nat.le_of_ble_eq_true rfl⟩ (Nat.le_of_ble_eq_true rfl) rfl dX1_unite_13 ?_
    refine v_astore_n [(3, .ref (G (b + 7 + 2 * y))), (0, .ref (G b)), (1, .int (nI y)), (2, .int (nI o))] dX1_unite_16 rfl (by decide) rfl ?_
    refine v_aload_n 1 dX1_unite_17 rfl rfl ?_
    refine v_iload_n 3 dX1_unite_18 rfl rfl ?_
    refine u_callVv [.int (nI o)] [] 1 (c_X1_lineOf lu Dg E N G shp σ hH c (k := o) (by omega)) (ci := 1) (C := RX1) (T := TX1) (NF := 11) hH.n hH.s rfl gX1_unite_X1_lineOf rfl rfl rfl (by decide +kernel) rfl ⟨Nat.le_of_ble_eq_true rfl, Nat.le_of_ble_eq_true rfl⟩ ⟨Nat.le_of_ble_eq_true rfl, Nat.le_of_ble_eq_true rfl⟩ (Nat.le_of_ble_eq_true rfl) rfl dX1_unite_19 ?_
    refine v_astore [(4, .ref (G (b + 7 + 2 * o))), (3, .ref (G (b + 7 + 2 * y))), (0, .ref (G b)), (1, .int (nI y)), (2, .int (nI o))] dX1_unite_22 (by decide) rfl ?_
    refine v_σ (hs σ b (mvTo c y o na 0)) (congrArg (fun z9 => hs σ b z9) (rfl)) ?_
    refine v_iconst (nI 0) dX1_unite_24 (by decide +kernel) ?_
    refine v_istore [(5, .int (nI 0)), (4, .ref (G (b + 7 + 2 * o))), (3, .ref (G (b + 7 + 2 * y))), (0, .ref (G b)), (1, .int (nI y)), (2, .int (nI o))] dX1_unite_25 (by decide) rfl ?_
    refine v_loc [0, 1, 2, 5, 4, 3] [(5, .int (nI 0)), (4, .ref (G (b + 7 + 2 * o))), (3, .ref (G (b + 7 + 2 * y))), (2, .int (nI o)), (1, .int (nI y)), (0, .ref (G b))] rfl ?_
    refine u_loop1 (fun n (k : Nat) => k + n = nb) (fun (k : Nat) => hs σ b (mvTo c y o na k)) (fun (k : Nat) => [(5, .int (nI k)), (4, .ref (G (b + 7 + 2 * o))), (3, .ref (G (b + 7 + 2 * y))), (2, .int (nI o)), (1, .int (nI y)), (0, .ref (G b))]) (nb) 0 ((by omega)) ?_
    intro n k hL ih
    refine v_iload 0 dX1_unite_27 rfl ?_
    refine v_aload 1 dX1_unite_29 rfl ?_
    refine l_geti (g := (mvTo c y o na k)) (k := 3) (y := o) (by omega) ((mvTo c y o na k) (13 + o)) hH rfl (lF3 _ _) inX1_unite_X3 (by decide) (by decide +kernel) rfl dX1_unite_31 ?_
    refine v_topi (nI nb) ((by rw [mvTo_h hy3 ho3 hyo (by omega) _ (by omega), if_neg (by omega), if_neg (by omega)]; exact hlb)) ?_
    refine v_icmp_geN 69 (by omega) (by omega) dX1_unite_34 rfl (fun h34 => ?_) (fun h34 => ?_)
    · skip
      have hkn : k = nb := by omega
      refine v_σ (hs σ b (mvTo c y o na nb)) (congrArg (fun z9 => hs σ b z9) ((by rw [hkn]))) ?_
      refine v_aload 1 dX1_unite_69 rfl ?_
      refine v_iconst (nI 0) dX1_unite_71 (by decide +kernel) ?_
      refine l_puti (k := 3) (y := o) (by omega) hH rfl (hst_l3 (by omega) _) inX1_unite_X3 (by decide) (by decide +kernel) rfl rfl (by decide +kernel) dX1_unite_72 ?_
      generalize hg1 : upd (mvTo c y o na nb) (13 + o) (nI 0) = g1
      refine v_aload 1 dX1_unite_75 rfl ?_
      refine v_iconst (nI 0) dX1_unite_77 (by decide +kernel) ?_
      refine l_puti (k := 1) (y := o) (by omega) hH rfl (hst_l1 (by omega) _) inX1_unite_X3 (by decide) (by decide +kernel) rfl rfl (by decide +kernel) dX1_unite_78 ?_
      generalize hg2 : upd g1 (16 + o) (nI 0) = g2
      refine v_σ (hs σ b (mid c y o)) (congrArg (fun z9 => hs σ b z9) ((by subst hg1; subst hg2; unfold mid; rw [hna, hnb]))) ?_
      have hk0 := (hI.midK hkm.1 hkm.2.1 hyo hkm.2.2.2).keys (l := y) (by rw [mid_h hI hkm.1 hkm.2.1 hyo hkm.2.2.2 (by omega), if_neg (by omega), if_neg (by omega), if_neg (by omega), if_neg (by omega)]; exact hkm.1)
      have hrr := (hI.midK hkm.1 hkm.2.1 hyo hkm.2.2.2).rowRw (l := y) (by rw [mid_h hI hkm.1 hkm.2.1 hyo hkm.2.2.2 (by omega), if_neg (by omega), if_neg (by omega), if_neg (by omega), if_neg (by omega)]; exact hkm.1)
      have hm13 : (mid c y o) (13 + y) = nI (na + nb) := by rw [mid_h hI hkm.1 hkm.2.1 hyo hkm.2.2.2 (by omega), if_neg (by omega), if_neg (by omega), if_pos rfl, hna, hnb]
      rw [hm13, tn_nI (by omega)] at hk0 hrr
      have hun := hI.unite hkm.1 hkm.2.1 hyo hkm.2.2.2
      rw [hna, hnb] at hun
      refine v_σ (hs σ b (rwF (mid c y o) (22 + 12 * y) (na + nb) (rowN (mid c y o) y))) (congrArg (fun z9 => hs σ b z9) (hrr.symm)) ?_
      refine v_aload_n 5 dX1_unite_81 rfl rfl ?_
      refine v_aload_n 2 dX1_unite_82 rfl rfl ?_
      refine u_callVn [.ref (G (b + 7 + 2 * y))] [] 1 (c_X1_sortByStanding lu Dg E N G shp σ hH (mid c y o) (l := y) hy3 (M := (na + nb)) hm13 (by omega) hk0) (ci := 1) (C := RX1) (T := TX1) (NF := 11) hH.n hH.s rfl gX1_unite_X1_sortByStanding rfl rfl rfl (by decide +kernel) rfl ⟨Nat.le_of_ble_eq_true rfl, Nat.le_of_ble_eq_true rfl⟩ ⟨Nat.le_of_ble_eq_true rfl, Nat.le_of_ble_eq_true rfl⟩ (Nat.le_of_ble_eq_true rfl) rfl dX1_unite_83 ?_
      refine v_σ (hs σ b (mergesF c y o)) (congrArg (fun z9 => hs σ b z9) (hun)) ?_
      refine v_aload_n 2 dX1_unite_86 rfl rfl ?_
      refine l_geti (g := (mergesF c y o)) (k := 3) (y := y) (by omega) ((mergesF c y o) (13 + y)) hH rfl (lF3 _ _) inX1_unite_X3 (by decide) (by decide +kernel) rfl dX1_unite_87 ?_
      refine v_topi (nI ((na + nb))) ((by rw [hI.merges_h hkm.1 hkm.2.1 hyo hkm.2.2.2 (by omega), if_neg (by omega), if_neg (by omega), if_pos rfl, hna, hnb])) ?_
      refine v_iret rfl dX1_unite_90 ⟨congrArg (fun z => some (Value.int z)) ?_, congrArg (φ shp) ?_⟩
      · rw [ic_t h6, hna, hnb]
      · rw [ic_t h6]
    · skip
      obtain ⟨q, hqe⟩ : ∃ q, tn (c (22 + 12 * o + k)) = q := ⟨_, rfl⟩
      have hq1 := (hrow k (by omega)).1
      have hq2 := (hrow k (by omega)).2
      rw [hqe] at hq1 hq2
      have hmo : (mvTo c y o na k) (22 + 12 * o + k) = nI q := by rw [mvTo_o hy3 ho3 hyo (by omega) (by omega)]; exact hq1
      have hmb : (mvTo c y o na k) (13 + o) = nI nb := by rw [mvTo_h hy3 ho3 hyo (by omega) _ (by omega), if_neg (by omega), if_neg (by omega)]; exact hlb
      have hma : (mvTo c y o na k) (13 + y) = nI (na + k) := by rw [mvTo_h hy3 ho3 hyo (by omega) _ (by omega)]; by_cases hk0 : 0 < k; rw [if_pos ⟨rfl, hk0⟩]; rw [if_neg (fun z => hk0 z.2), if_neg (by omega), hla]; congr 1; omega
      refine v_aload_n 5 dX1_unite_37 rfl rfl ?_
      refine v_aload 1 dX1_unite_38 rfl ?_
      refine v_iload 0 dX1_unite_40 rfl ?_
      refine u_callVv [.int (nI k)] [.ref (G b)] 1 ((c_X3_who lu Dg E N G shp σ hH (mvTo c y o na k) (l := o) ho3 hmb hb12 k (by omega)).to (v' := some (.int (nI q))) (congrArg (fun z => some (Value.int z)) (by rw [ic_t (by omega)]; exact hmo)) rfl) (ci := 3) (C := RX3) (T := TX3) (NF := 5) (hH.li (l := o) (by omega)).n (hH.li (l := o) (by omega)).2.1 rfl gX1_unite_X3_who rfl rfl rfl (by decide +kernel) rfl ⟨Nat.le_of_ble_eq_true rfl, Nat.le_of_ble_eq_true rfl⟩ ⟨Nat.le_of_ble_eq_true rfl, Nat.le_of_ble_eq_true rfl⟩ (Nat.le_of_ble_eq_true rfl) rfl dX1_unite_42 ?_
      refine u_callVv [.int (nI q)] [] 1 (c_X1_personOf lu Dg E N G shp σ hH (mvTo c y o na k) (k := q) (by omega)) (ci := 1) (C := RX1) (T := TX1) (NF := 11) hH.n hH.s rfl gX1_unite_X1_personOf rfl rfl rfl (by decide +kernel) rfl ⟨Nat.le_of_ble_eq_true rfl, Nat.le_of_ble_eq_true rfl⟩ ⟨Nat.le_of_ble_eq_true rfl, Nat.le_of_ble_eq_true rfl⟩ (Nat.le_of_ble_eq_true rfl) rfl dX1_unite_45 ?_
      refine v_iload_n 4 dX1_unite_48 rfl rfl ?_
      refine p_puti (k := 1) (q := q) (by omega) hH rfl (hst_p1 (by omega) _) inX1_unite_X4 (by decide) (by decide +kernel) rfl rfl (by decide +kernel) dX1_unite_49 ?_
      generalize hg3 : upd (mvTo c y o na k) (58 + 10 * q + 1) (nI y) = g3
      have hg13 : g3 (13 + o) = nI nb := by rw [← hg3, upd_ap, if_neg (by omega)]; exact hmb
      have hg22 : g3 (22 + 12 * o + k) = nI q := by rw [← hg3, upd_ap, if_neg (by omega)]; exact hmo
      have hgy : g3 (13 + y) = nI (na + k) := by rw [← hg3, upd_ap, if_neg (by omega)]; exact hma
      refine v_aload_n 2 dX1_unite_52 rfl rfl ?_
      refine v_aload 1 dX1_unite_53 rfl ?_
      refine v_iload 0 dX1_unite_55 rfl ?_
      refine u_callVv [.int (nI k)] [.ref (G (b + 7 + 2 * y))] 1 ((c_X3_who lu Dg E N G shp σ hH g3 (l := o) ho3 hg13 hb12 k (by omega)).to (v' := some (.int (nI q))) (congrArg (fun z => some (Value.int z)) (by rw [ic_t (by omega)]; exact hg22)) rfl) (ci := 3) (C := RX3) (T := TX3) (NF := 5) (hH.li (l := o) (by omega)).n (hH.li (l := o) (by omega)).2.1 rfl gX1_unite_X3_who rfl rfl rfl (by decide +kernel) rfl ⟨Nat.le_of_ble_eq_true rfl, Nat.le_of_ble_eq_true rfl⟩ ⟨Nat.le_of_ble_eq_true rfl, Nat.le_of_ble_eq_true rfl⟩ (Nat.le_of_ble_eq_true rfl) rfl dX1_unite_57 ?_
      refine u_callVn [.int (nI q)] [] 1 (c_X3_add lu Dg E N G shp σ hH g3 (l := y) hy3 (len := na + k) hgy (by omega) (nI q)) (ci := 3) (C := RX3) (T := TX3) (NF := 5) (hH.li (l := y) (by omega)).n (hH.li (l := y) (by omega)).2.1 rfl gX1_unite_X3_add rfl rfl rfl (by decide +kernel) rfl ⟨Nat.le_of_ble_eq_true rfl, Nat.le_of_ble_eq_true rfl⟩ ⟨Nat.le_of_ble_eq_true rfl, Nat.le_of_ble_eq_true rfl⟩ (Nat.le_of_ble_eq_true rfl) rfl dX1_unite_60 ?_
      refine v_σ (hs σ b (mvTo c y o na (k + 1))) (congrArg (fun z9 => hs σ b z9) ((by subst hg3; rw [mvTo, mvF_eq _ _ _ _ _ (q := q) (by rw [hmo]; exact tn_nI (by omega))]))) ?_
      refine v_iincN 0 [(5, .int (nI (k + 1))), (4, .ref (G (b + 7 + 2 * o))), (3, .ref (G (b + 7 + 2 * y))), (2, .int (nI o)), (1, .int (nI y)), (0, .ref (G b))] dX1_unite_63 rfl (by decide) rfl ?_
      refine v_goto 27 dX1_unite_66 rfl ?_
      refine v_loc [0, 1, 2, 3, 4, 5] [(5, .int (nI (k + 1))), (4, .ref (G (b + 7 + 2 * o))), (3, .ref (G (b + 7 + 2 * y))), (2, .int (nI o)), (1, .int (nI y)), (0, .ref (G b))] rfl ?_
      exact ih _ (k + 1) (show n - 1 < n by omega) (by omega)
  · skip
    refine v_iconst ((-1)) dX1_unite_9 (by decide +kernel) ?_
    refine v_iret rfl dX1_unite_10 ⟨congrArg (fun z => some (Value.int z)) ?_, congrArg (φ shp) ?_⟩
    · exact (ic_f h6).symm
    · rw [ic_f h6]

theorem ic_m1 {P : Prop} {n : Nat} (hn : n < 2 ^ 31) : ic P (nI n) (-1) = -1 ↔ ¬ P := by
  by_cases q : P
  · rw [ic_t q]; exact ⟨fun z => absurd z (nI_m1 hn), fun z => absurd q z⟩
  · rw [ic_f q]; exact ⟨fun _ => q, fun _ => rfl⟩
noncomputable def succXC (s : Nat → Int32) (g : Nat) : Nat → Int32 := match g / 10000 with
  | 1 => comesC s (g / 1000 % 10) (g / 100 % 10)
  | 2 => goesS s (g % 100)
  | 3 => exchS s (g / 100 % 100) (g % 100)
  | 4 => jumpsS s (g % 100)
  | 5 => mergesF s (g / 1000 % 10) (g / 100 % 10)
  | 6 => goByS s (g % 100)
  | _ => s
/-- whether a command succeeds, as the class finds it -/
noncomputable def succPC (s : Nat → Int32) (g : Nat) : Prop := match g / 10000 with
  | 1 => g % 100 = 0 ∧ comeFl s (nI (g / 1000 % 10)) (nI (g / 100 % 10)) = 0
  | 2 => g / 100 % 100 = 0 ∧ (g % 100 < tn (s 2) ∧ s (58 + 10 * (g % 100) + 5) = 0)
  | 3 => g / 100 % 100 < tn (s 2) ∧ g % 100 < tn (s 2) ∧ MayX s (g / 100 % 100) (g % 100)
  | 4 => g / 100 % 100 = 0 ∧ (g % 100 < tn (s 2) ∧ MayC s (g % 100))
  | 5 => g % 100 = 0 ∧ mergeFl s (nI (g / 1000 % 10)) (nI (g / 100 % 10)) = 0
  | 6 => g / 100 % 100 = 0 ∧ 1 ≤ g % 100 ∧ g % 100 ≤ 60
  | 7 => g / 100 % 100 = 0 ∧ Rg (tn (s 2)) (nI (g % 100)) ∧ s (58 + 10 * (g % 100) + 5) = nI 1
  | 8 => (g / 100 % 100 < tn (s 2) ∧ s (58 + 10 * (g / 100 % 100) + 5) = 0) ∧ plc s (g / 100 % 100) = g % 100
  | 9 => g / 1000 % 10 = 0 ∧ s 5 ≤ nI (g % 1000)
  | _ => False
noncomputable def succC (s : Nat → Int32) (g : Nat) : Nat → Int32 := ic (succPC s g) (succXC s g) s
set_option maxHeartbeats 4000000 in
set_option maxRecDepth 100000 in
/-- obeys 1 -/
theorem c_X1_obeys_1 (lu : Launch) (Dg : va_G) (E : Nat → ClassId) (N : Nat) (G : Nat → Nat) (shp : Nat → (Nat → Int32) → va_E) (σ : Nat → Nat → Int32) {b : Nat} (hH : HallS E G shp N b) (c : Nat → Int32) {T : Nat} (hI : Inv T c) {g a z hi lo : Nat} (hg : g < 100000) (ha : g / 1000 % 10 = a) (hz : g / 100 % 10 = z) (hh : g / 100 % 100 = hi) (hl : g % 100 = lo) (hm : g / 10000 = 1)  : CS lu yX1_obeys wsX1_obeys { frames := 4, cells := 0, slots := 0, locals := 92 } Dg E N G shp (hs σ b c) [.ref (G b), .int (nI g)] (some (.int (bi (lo = 0 ∧ (comeFl c (nI a) (nI z) = 0))))) (hs σ b (ic (lo = 0 ∧ (comeFl c (nI a) (nI z) = 0)) (comesC c a z) c)) := by
  refine CS.of (cc := cX1_obeys) (maxL := 6) (ret := (some .boolean)) (by decide) rfl (Nat.le_of_ble_eq_true rfl) ?_
  intro p_ e_ s_ m_ args_ below_ meth_ c_
  refine v_eq (pc' := 0) (st' := []) rfl rfl ?_
  refine v_loc [0, 1] [(0, .ref (G b)), (1, .int (nI g))] rfl ?_
  have ha10 : a < 10 := by omega
  have hc10 : z < 10 := by omega
  have hh100 : hi < 100 := by omega
  have hl100 : lo < 100 := by omega
  have hnp30 := hI.np30
  have hnl3 := hI.nl3
  refine v_iload_n 1 dX1_obeys_0 rfl rfl ?_
  refine v_sipush (nI 1000) dX1_obeys_1 (by decide +kernel) ?_
  refine v_idivN (by omega) (by omega) (by omega) dX1_obeys_4 ?_
  refine v_bipush (nI 10) dX1_obeys_5 (by decide +kernel) ?_
  refine v_iremN (by omega) (by omega) (by omega) dX1_obeys_7 ?_
  refine v_topi (nI a) (congrArg nI ha) ?_
  refine v_istore_n [(2, .int (nI a)), (0, .ref (G b)), (1, .int (nI g))] dX1_obeys_8 rfl (by decide) rfl ?_
  refine v_iload_n 2 dX1_obeys_9 rfl rfl ?_
  refine v_bipush (nI 100) dX1_obeys_10 (by decide +kernel) ?_
  refine v_idivN (by omega) (by omega) (by omega) dX1_obeys_12 ?_
  refine v_bipush (nI 10) dX1_obeys_13 (by decide +kernel) ?_
  refine v_iremN (by omega) (by omega) (by omega) dX1_obeys_15 ?_
  refine v_topi (nI z) (congrArg nI hz) ?_
  refine v_istore_n [(3, .int (nI z)), (2, .int (nI a)), (0, .ref (G b)), (1, .int (nI g))] dX1_obeys_16 rfl (by decide) rfl ?_
  refine v_iload_n 3 dX1_obeys_17 rfl rfl ?_
  refine v_bipush (nI 100) dX1_obeys_18 (by decide +kernel) ?_
  refine v_idivN (by omega) (by omega) (by omega) dX1_obeys_20 ?_
  refine v_bipush (nI 100) dX1_obeys_21 (by decide +kernel) ?_
  refine v_iremN (by omega) (by omega) (by omega) dX1_obeys_23 ?_
  refine v_topi (nI hi) (congrArg nI hh) ?_
  refine v_istore [(4, .int (nI hi)), (3, .int (nI z)), (2, .int (nI a)), (0, .ref (G b)), (1, .int (nI g))] dX1_obeys_24 (by decide) rfl ?_
  refine v_iload_n 4 dX1_obeys_26 rfl rfl ?_
  refine v_bipush (nI 100) dX1_obeys_27 (by decide +kernel) ?_
  refine v_iremN (by omega) (by omega) (by omega) dX1_obeys_29 ?_
  refine v_topi (nI lo) (congrArg nI hl) ?_
  refine v_istore [(5, .int (nI lo)), (4, .int (nI hi)), (3, .int (nI z)), (2, .int (nI a)), (0, .ref (G b)), (1, .int (nI g))] dX1_obeys_30 (by decide) rfl ?_
  refine v_iload_n 5 dX1_obeys_32 rfl rfl ?_
  refine v_sipush (nI 10000) dX1_obeys_33 (by decide +kernel) ?_
  refine v_idivN (by omega) (by omega) (by omega) dX1_obeys_36 ?_
  refine v_topi (nI 1) (congrArg nI hm) ?_
  refine v_tableIn (off := 51) 88 dX1_obeys_37 (by decide +kernel) (by decide +kernel) (by decide +kernel) rfl ?_
  refine v_iload 0 dX1_obeys_88 rfl ?_
  refine v_if_neN 107 (by omega) dX1_obeys_90 rfl (fun h90 => ?_) (fun h90 => ?_)
  · skip
    refine v_iconst (nI 0) dX1_obeys_107 (by decide +kernel) ?_
    refine v_zret rfl (by decide +kernel) dX1_obeys_108 ⟨congrArg (fun z => some (Value.int z)) ?_, congrArg (φ shp) ?_⟩
    · exact bi_nf (fun z9 => by have := z9.1; omega)
    · rw [ic_nand (P := lo = 0) (by omega)]
  · skip
    refine v_aload_n 4 dX1_obeys_93 rfl rfl ?_
    refine v_iload_n 3 dX1_obeys_94 rfl rfl ?_
    refine v_iload_n 2 dX1_obeys_95 rfl rfl ?_
    refine u_callVv [.int (nI a), .int (nI z)] [] 2 (c_X1_enter lu Dg E N G shp σ hH c hI (y := a) (k0 := z) (by omega) (by omega)) (ci := 1) (C := RX1) (T := TX1) (NF := 11) hH.n hH.s rfl gX1_obeys_X1_enter rfl rfl rfl (by decide +kernel) rfl ⟨Nat.le_of_ble_eq_true rfl, Nat.le_of_ble_eq_true rfl⟩ ⟨Nat.le_of_ble_eq_true rfl, Nat.le_of_ble_eq_true rfl⟩ (Nat.le_of_ble_eq_true rfl) rfl dX1_obeys_96 ?_
    refine v_iconst ((-1)) dX1_obeys_99 (by decide +kernel) ?_
    refine v_icmp_eq 107 dX1_obeys_100 rfl (fun h100 => ?_) (fun h100 => ?_)
    · skip
      refine v_iconst (nI 0) dX1_obeys_107 (by decide +kernel) ?_
      refine v_zret rfl (by decide +kernel) dX1_obeys_108 ⟨congrArg (fun z => some (Value.int z)) ?_, congrArg (φ shp) ?_⟩
      · exact bi_nf (fun z9 => (ic_m1 (n := tn (c 2)) (by omega)).mp h100 z9.2)
      · rw [ic_and (P := lo = 0) (by omega)]
    · skip
      refine v_iconst (nI 1) dX1_obeys_103 (by decide +kernel) ?_
      refine v_goto 108 dX1_obeys_104 rfl ?_
      refine v_zret rfl (by decide +kernel) dX1_obeys_108 ⟨congrArg (fun z => some (Value.int z)) ?_, congrArg (φ shp) ?_⟩
      · exact bi_nt ⟨by omega, (Classical.not_not.mp (fun z9 => h100 ((ic_m1 (n := tn (c 2)) (by omega)).mpr z9)))⟩
      · rw [ic_and (P := lo = 0) (by omega)]

set_option maxHeartbeats 4000000 in
set_option maxRecDepth 100000 in
/-- obeys 2 -/
theorem c_X1_obeys_2 (lu : Launch) (Dg : va_G) (E : Nat → ClassId) (N : Nat) (G : Nat → Nat) (shp : Nat → (Nat → Int32) → va_E) (σ : Nat → Nat → Int32) {b : Nat} (hH : HallS E G shp N b) (c : Nat → Int32) {T : Nat} (hI : Inv T c) {g a z hi lo : Nat} (hg : g < 100000) (ha : g / 1000 % 10 = a) (hz : g / 100 % 10 = z) (hh : g / 100 % 100 = hi) (hl : g % 100 = lo) (hm : g / 10000 = 2)  : CS lu yX1_obeys wsX1_obeys { frames := 4, cells := 0, slots := 0, locals := 92 } Dg E N G shp (hs σ b c) [.ref (G b), .int (nI g)] (some (.int (bi (hi = 0 ∧ (lo < tn (c 2) ∧ c (58 + 10 * lo + 5) = 0))))) (hs σ b (ic (hi = 0 ∧ (lo < tn (c 2) ∧ c (58 + 10 * lo + 5) = 0)) (goesS c lo) c)) := by
  refine CS.of (cc := cX1_obeys) (maxL := 6) (ret := (some .boolean)) (by decide) rfl (Nat.le_of_ble_eq_true rfl) ?_
  intro p_ e_ s_ m_ args_ below_ meth_ c_
  refine v_eq (pc' := 0) (st' := []) rfl rfl ?_
  refine v_loc [0, 1] [(0, .ref (G b)), (1, .int (nI g))] rfl ?_
  have ha10 : a < 10 := by omega
  have hc10 : z < 10 := by omega
  have hh100 : hi < 100 := by omega
  have hl100 : lo < 100 := by omega
  have hnp30 := hI.np30
  have hnl3 := hI.nl3
  refine v_iload_n 1 dX1_obeys_0 rfl rfl ?_
  refine v_sipush (nI 1000) dX1_obeys_1 (by decide +kernel) ?_
  refine v_idivN (by omega) (by omega) (by omega) dX1_obeys_4 ?_
  refine v_bipush (nI 10) dX1_obeys_5 (by decide +kernel) ?_
  refine v_iremN (by omega) (by omega) (by omega) dX1_obeys_7 ?_
  refine v_topi (nI a) (congrArg nI ha) ?_
  refine v_istore_n [(2, .int (nI a)), (0, .ref (G b)), (1, .int (nI g))] dX1_obeys_8 rfl (by decide) rfl ?_
  refine v_iload_n 2 dX1_obeys_9 rfl rfl ?_
  refine v_bipush (nI 100) dX1_obeys_10 (by decide +kernel) ?_
  refine v_idivN (by omega) (by omega) (by omega) dX1_obeys_12 ?_
  refine v_bipush (nI 10) dX1_obeys_13 (by decide +kernel) ?_
  refine v_iremN (by omega) (by omega) (by omega) dX1_obeys_15 ?_
  refine v_topi (nI z) (congrArg nI hz) ?_
  refine v_istore_n [(3, .int (nI z)), (2, .int (nI a)), (0, .ref (G b)), (1, .int (nI g))] dX1_obeys_16 rfl (by decide) rfl ?_
  refine v_iload_n 3 dX1_obeys_17 rfl rfl ?_
  refine v_bipush (nI 100) dX1_obeys_18 (by decide +kernel) ?_
  refine v_idivN (by omega) (by omega) (by omega) dX1_obeys_20 ?_
  refine v_bipush (nI 100) dX1_obeys_21 (by decide +kernel) ?_
  refine v_iremN (by omega) (by omega) (by omega) dX1_obeys_23 ?_
  refine v_topi (nI hi) (congrArg nI hh) ?_
  refine v_istore [(4, .int (nI hi)), (3, .int (nI z)), (2, .int (nI a)), (0, .ref (G b)), (1, .int (nI g))] dX1_obeys_24 (by decide) rfl ?_
  refine v_iload_n 4 dX1_obeys_26 rfl rfl ?_
  refine v_bipush (nI 100) dX1_obeys_27 (by decide +kernel) ?_
  refine v_iremN (by omega) (by omega) (by omega) dX1_obeys_29 ?_
  refine v_topi (nI lo) (congrArg nI hl) ?_
  refine v_istore [(5, .int (nI lo)), (4, .int (nI hi)), (3, .int (nI z)), (2, .int (nI a)), (0, .ref (G b)), (1, .int (nI g))] dX1_obeys_30 (by decide) rfl ?_
  refine v_iload_n 5 dX1_obeys_32 rfl rfl ?_
  refine v_sipush (nI 10000) dX1_obeys_33 (by decide +kernel) ?_
  refine v_idivN (by omega) (by omega) (by omega) dX1_obeys_36 ?_
  refine v_topi (nI 2) (congrArg nI hm) ?_
  refine v_tableIn (off := 72) 109 dX1_obeys_37 (by decide +kernel) (by decide +kernel) (by decide +kernel) rfl ?_
  refine v_iload 1 dX1_obeys_109 rfl ?_
  refine v_if_neN 128 (by omega) dX1_obeys_111 rfl (fun h111 => ?_) (fun h111 => ?_)
  · skip
    refine v_iconst (nI 0) dX1_obeys_128 (by decide +kernel) ?_
    refine v_zret rfl (by decide +kernel) dX1_obeys_129 ⟨congrArg (fun z => some (Value.int z)) ?_, congrArg (φ shp) ?_⟩
    · exact bi_nf (fun z9 => by have := z9.1; omega)
    · rw [ic_nand (P := hi = 0) (by omega)]
  · skip
    refine v_aload_n 4 dX1_obeys_114 rfl rfl ?_
    refine v_iload 0 dX1_obeys_115 rfl ?_
    refine u_callVv [.int (nI lo)] [] 1 (c_X1_leave lu Dg E N G shp σ hH c hI (p := lo) (by omega)) (ci := 1) (C := RX1) (T := TX1) (NF := 11) hH.n hH.s rfl gX1_obeys_X1_leave rfl rfl rfl (by decide +kernel) rfl ⟨Nat.le_of_ble_eq_true rfl, Nat.le_of_ble_eq_true rfl⟩ ⟨Nat.le_of_ble_eq_true rfl, Nat.le_of_ble_eq_true rfl⟩ (Nat.le_of_ble_eq_true rfl) rfl dX1_obeys_117 ?_
    refine v_topi (ic (lo < tn (c 2) ∧ c (58 + 10 * lo + 5) = 0) (nI (tn (c (58 + 10 * lo + 2)))) (-1)) ((by by_cases q9 : lo < tn (c 2) ∧ c (58 + 10 * lo + 5) = 0; rw [ic_t q9, ic_t q9]; exact hI.stood q9.1; rw [ic_f q9, ic_f q9])) ?_
    refine v_iconst ((-1)) dX1_obeys_120 (by decide +kernel) ?_
    refine v_icmp_eq 128 dX1_obeys_121 rfl (fun h121 => ?_) (fun h121 => ?_)
    · skip
      refine v_iconst (nI 0) dX1_obeys_128 (by decide +kernel) ?_
      refine v_zret rfl (by decide +kernel) dX1_obeys_129 ⟨congrArg (fun z => some (Value.int z)) ?_, congrArg (φ shp) ?_⟩
      · exact bi_nf (fun z9 => (ic_m1 (n := tn (c (58 + 10 * lo + 2))) (tn_lt _)).mp h121 z9.2)
      · rw [ic_and (P := hi = 0) (by omega)]
    · skip
      refine v_iconst (nI 1) dX1_obeys_124 (by decide +kernel) ?_
      refine v_goto 129 dX1_obeys_125 rfl ?_
      refine v_zret rfl (by decide +kernel) dX1_obeys_129 ⟨congrArg (fun z => some (Value.int z)) ?_, congrArg (φ shp) ?_⟩
      · exact bi_nt ⟨by omega, (Classical.not_not.mp (fun z9 => h121 ((ic_m1 (n := tn (c (58 + 10 * lo + 2))) (tn_lt _)).mpr z9)))⟩
      · rw [ic_and (P := hi = 0) (by omega)]

set_option maxHeartbeats 4000000 in
set_option maxRecDepth 100000 in
/-- obeys 3 -/
theorem c_X1_obeys_3 (lu : Launch) (Dg : va_G) (E : Nat → ClassId) (N : Nat) (G : Nat → Nat) (shp : Nat → (Nat → Int32) → va_E) (σ : Nat → Nat → Int32) {b : Nat} (hH : HallS E G shp N b) (c : Nat → Int32) {T : Nat} (hI : Inv T c) {g a z hi lo : Nat} (hg : g < 100000) (ha : g / 1000 % 10 = a) (hz : g / 100 % 10 = z) (hh : g / 100 % 100 = hi) (hl : g % 100 = lo) (hm : g / 10000 = 3)  : CS lu yX1_obeys wsX1_obeys { frames := 4, cells := 0, slots := 0, locals := 92 } Dg E N G shp (hs σ b c) [.ref (G b), .int (nI g)] (some (.int (bi (hi < tn (c 2) ∧ lo < tn (c 2) ∧ MayX c hi lo)))) (hs σ b (ic (hi < tn (c 2) ∧ lo < tn (c 2) ∧ MayX c hi lo) (exchS c hi lo) c)) := by
  refine CS.of (cc := cX1_obeys) (maxL := 6) (ret := (some .boolean)) (by decide) rfl (Nat.le_of_ble_eq_true rfl) ?_
  intro p_ e_ s_ m_ args_ below_ meth_ c_
  refine v_eq (pc' := 0) (st' := []) rfl rfl ?_
  refine v_loc [0, 1] [(0, .ref (G b)), (1, .int (nI g))] rfl ?_
  have ha10 : a < 10 := by omega
  have hc10 : z < 10 := by omega
  have hh100 : hi < 100 := by omega
  have hl100 : lo < 100 := by omega
  have hnp30 := hI.np30
  have hnl3 := hI.nl3
  refine v_iload_n 1 dX1_obeys_0 rfl rfl ?_
  refine v_sipush (nI 1000) dX1_obeys_1 (by decide +kernel) ?_
  refine v_idivN (by omega) (by omega) (by omega) dX1_obeys_4 ?_
  refine v_bipush (nI 10) dX1_obeys_5 (by decide +kernel) ?_
  refine v_iremN (by omega) (by omega) (by omega) dX1_obeys_7 ?_
  refine v_topi (nI a) (congrArg nI ha) ?_
  refine v_istore_n [(2, .int (nI a)), (0, .ref (G b)), (1, .int (nI g))] dX1_obeys_8 rfl (by decide) rfl ?_
  refine v_iload_n 2 dX1_obeys_9 rfl rfl ?_
  refine v_bipush (nI 100) dX1_obeys_10 (by decide +kernel) ?_
  refine v_idivN (by omega) (by omega) (by omega) dX1_obeys_12 ?_
  refine v_bipush (nI 10) dX1_obeys_13 (by decide +kernel) ?_
  refine v_iremN (by omega) (by omega) (by omega) dX1_obeys_15 ?_
  refine v_topi (nI z) (congrArg nI hz) ?_
  refine v_istore_n [(3, .int (nI z)), (2, .int (nI a)), (0, .ref (G b)), (1, .int (nI g))] dX1_obeys_16 rfl (by decide) rfl ?_
  refine v_iload_n 3 dX1_obeys_17 rfl rfl ?_
  refine v_bipush (nI 100) dX1_obeys_18 (by decide +kernel) ?_
  refine v_idivN (by omega) (by omega) (by omega) dX1_obeys_20 ?_
  refine v_bipush (nI 100) dX1_obeys_21 (by decide +kernel) ?_
  refine v_iremN (by omega) (by omega) (by omega) dX1_obeys_23 ?_
  refine v_topi (nI hi) (congrArg nI hh) ?_
  refine v_istore [(4, .int (nI hi)), (3, .int (nI z)), (2, .int (nI a)), (0, .ref (G b)), (1, .int (nI g))] dX1_obeys_24 (by decide) rfl ?_
  refine v_iload_n 4 dX1_obeys_26 rfl rfl ?_
  refine v_bipush (nI 100) dX1_obeys_27 (by decide +kernel) ?_
  refine v_iremN (by omega) (by omega) (by omega) dX1_obeys_29 ?_
  refine v_topi (nI lo) (congrArg nI hl) ?_
  refine v_istore [(5, .int (nI lo)), (4, .int (nI hi)), (3, .int (nI z)), (2, .int (nI a)), (0, .ref (G b)), (1, .int (nI g))] dX1_obeys_30 (by decide) rfl ?_
  refine v_iload_n 5 dX1_obeys_32 rfl rfl ?_
  refine v_sipush (nI 10000) dX1_obeys_33 (by decide +kernel) ?_
  refine v_idivN (by omega) (by omega) (by omega) dX1_obeys_36 ?_
  refine v_topi (nI 3) (congrArg nI hm) ?_
  refine v_tableIn (off := 93) 130 dX1_obeys_37 (by decide +kernel) (by decide +kernel) (by decide +kernel) rfl ?_
  refine v_aload_n 4 dX1_obeys_130 rfl rfl ?_
  refine v_iload 1 dX1_obeys_131 rfl ?_
  refine v_iload 0 dX1_obeys_133 rfl ?_
  refine u_callVv [.int (nI hi), .int (nI lo)] [] 2 (c_X1_trade lu Dg E N G shp σ hH c hI (p := hi) (q := lo) (by omega) (by omega)) (ci := 1) (C := RX1) (T := TX1) (NF := 11) hH.n hH.s rfl gX1_obeys_X1_trade rfl rfl rfl (by decide +kernel) rfl ⟨Nat.le_of_ble_eq_true rfl, Nat.le_of_ble_eq_true rfl⟩ ⟨Nat.le_of_ble_eq_true rfl, Nat.le_of_ble_eq_true rfl⟩ (Nat.le_of_ble_eq_true rfl) rfl dX1_obeys_135 ?_
  have hpr9 := hI.price9
  refine v_topi (ic (hi < tn (c 2) ∧ lo < tn (c 2) ∧ MayX c hi lo) (nI (min 12 (plc c hi - plc c lo) * tn (c 8))) (-1)) ((by by_cases q9 : hi < tn (c 2) ∧ lo < tn (c 2) ∧ MayX c hi lo; rw [ic_t q9, ic_t q9, hI.price, pk_mul, tn_nI (by omega)]; have h9 := hI.len12 (hI.plcs q9.1 q9.2.2.1).1; have h8 := (hI.plcs q9.1 q9.2.2.1).2.2.1; rw [Nat.min_eq_right (by omega)]; rw [ic_f q9, ic_f q9])) ?_
  have hlt9 : min 12 (plc c hi - plc c lo) * tn (c 8) ≤ 12 * 9 := Nat.mul_le_mul (Nat.min_le_left _ _) hpr9
  refine v_iconst ((-1)) dX1_obeys_138 (by decide +kernel) ?_
  refine v_icmp_eq 146 dX1_obeys_139 rfl (fun h139 => ?_) (fun h139 => ?_)
  · skip
    refine v_iconst (nI 0) dX1_obeys_146 (by decide +kernel) ?_
    refine v_zret rfl (by decide +kernel) dX1_obeys_147 ⟨congrArg (fun z => some (Value.int z)) ?_, congrArg (φ shp) ?_⟩
    · exact bi_nf (fun z9 => (ic_m1 (n := min 12 (plc c hi - plc c lo) * tn (c 8)) (by omega)).mp h139 z9)
    · rfl
  · skip
    refine v_iconst (nI 1) dX1_obeys_142 (by decide +kernel) ?_
    refine v_goto 147 dX1_obeys_143 rfl ?_
    refine v_zret rfl (by decide +kernel) dX1_obeys_147 ⟨congrArg (fun z => some (Value.int z)) ?_, congrArg (φ shp) ?_⟩
    · exact bi_nt (Classical.not_not.mp (fun z9 => h139 ((ic_m1 (n := min 12 (plc c hi - plc c lo) * tn (c 8)) (by omega)).mpr z9)))
    · rfl

set_option maxHeartbeats 4000000 in
set_option maxRecDepth 100000 in
/-- obeys 4 -/
theorem c_X1_obeys_4 (lu : Launch) (Dg : va_G) (E : Nat → ClassId) (N : Nat) (G : Nat → Nat) (shp : Nat → (Nat → Int32) → va_E) (σ : Nat → Nat → Int32) {b : Nat} (hH : HallS E G shp N b) (c : Nat → Int32) {T : Nat} (hI : Inv T c) {g a z hi lo : Nat} (hg : g < 100000) (ha : g / 1000 % 10 = a) (hz : g / 100 % 10 = z) (hh : g / 100 % 100 = hi) (hl : g % 100 = lo) (hm : g / 10000 = 4)  : CS lu yX1_obeys wsX1_obeys { frames := 4, cells := 0, slots := 0, locals := 92 } Dg E N G shp (hs σ b c) [.ref (G b), .int (nI g)] (some (.int (bi (hi = 0 ∧ (lo < tn (c 2) ∧ MayC c lo))))) (hs σ b (ic (hi = 0 ∧ (lo < tn (c 2) ∧ MayC c lo)) (jumpsS c lo) c)) := by
  refine CS.of (cc := cX1_obeys) (maxL := 6) (ret := (some .boolean)) (by decide) rfl (Nat.le_of_ble_eq_true rfl) ?_
  intro p_ e_ s_ m_ args_ below_ meth_ c_
  refine v_eq (pc' := 0) (st' := []) rfl rfl ?_
  refine v_loc [0, 1] [(0, .ref (G b)), (1, .int (nI g))] rfl ?_
  have ha10 : a < 10 := by omega
  have hc10 : z < 10 := by omega
  have hh100 : hi < 100 := by omega
  have hl100 : lo < 100 := by omega
  have hnp30 := hI.np30
  have hnl3 := hI.nl3
  refine v_iload_n 1 dX1_obeys_0 rfl rfl ?_
  refine v_sipush (nI 1000) dX1_obeys_1 (by decide +kernel) ?_
  refine v_idivN (by omega) (by omega) (by omega) dX1_obeys_4 ?_
  refine v_bipush (nI 10) dX1_obeys_5 (by decide +kernel) ?_
  refine v_iremN (by omega) (by omega) (by omega) dX1_obeys_7 ?_
  refine v_topi (nI a) (congrArg nI ha) ?_
  refine v_istore_n [(2, .int (nI a)), (0, .ref (G b)), (1, .int (nI g))] dX1_obeys_8 rfl (by decide) rfl ?_
  refine v_iload_n 2 dX1_obeys_9 rfl rfl ?_
  refine v_bipush (nI 100) dX1_obeys_10 (by decide +kernel) ?_
  refine v_idivN (by omega) (by omega) (by omega) dX1_obeys_12 ?_
  refine v_bipush (nI 10) dX1_obeys_13 (by decide +kernel) ?_
  refine v_iremN (by omega) (by omega) (by omega) dX1_obeys_15 ?_
  refine v_topi (nI z) (congrArg nI hz) ?_
  refine v_istore_n [(3, .int (nI z)), (2, .int (nI a)), (0, .ref (G b)), (1, .int (nI g))] dX1_obeys_16 rfl (by decide) rfl ?_
  refine v_iload_n 3 dX1_obeys_17 rfl rfl ?_
  refine v_bipush (nI 100) dX1_obeys_18 (by decide +kernel) ?_
  refine v_idivN (by omega) (by omega) (by omega) dX1_obeys_20 ?_
  refine v_bipush (nI 100) dX1_obeys_21 (by decide +kernel) ?_
  refine v_iremN (by omega) (by omega) (by omega) dX1_obeys_23 ?_
  refine v_topi (nI hi) (congrArg nI hh) ?_
  refine v_istore [(4, .int (nI hi)), (3, .int (nI z)), (2, .int (nI a)), (0, .ref (G b)), (1, .int (nI g))] dX1_obeys_24 (by decide) rfl ?_
  refine v_iload_n 4 dX1_obeys_26 rfl rfl ?_
  refine v_bipush (nI 100) dX1_obeys_27 (by decide +kernel) ?_
  refine v_iremN (by omega) (by omega) (by omega) dX1_obeys_29 ?_
  refine v_topi (nI lo) (congrArg nI hl) ?_
  refine v_istore [(5, .int (nI lo)), (4, .int (nI hi)), (3, .int (nI z)), (2, .int (nI a)), (0, .ref (G b)), (1, .int (nI g))] dX1_obeys_30 (by decide) rfl ?_
  refine v_iload_n 5 dX1_obeys_32 rfl rfl ?_
  refine v_sipush (nI 10000) dX1_obeys_33 (by decide +kernel) ?_
  refine v_idivN (by omega) (by omega) (by omega) dX1_obeys_36 ?_
  refine v_topi (nI 4) (congrArg nI hm) ?_
  refine v_tableIn (off := 111) 148 dX1_obeys_37 (by decide +kernel) (by decide +kernel) (by decide +kernel) rfl ?_
  refine v_iload 1 dX1_obeys_148 rfl ?_
  refine v_if_neN 167 (by omega) dX1_obeys_150 rfl (fun h150 => ?_) (fun h150 => ?_)
  · skip
    refine v_iconst (nI 0) dX1_obeys_167 (by decide +kernel) ?_
    refine v_zret rfl (by decide +kernel) dX1_obeys_168 ⟨congrArg (fun z => some (Value.int z)) ?_, congrArg (φ shp) ?_⟩
    · exact bi_nf (fun z9 => by have := z9.1; omega)
    · rw [ic_nand (P := hi = 0) (by omega)]
  · skip
    refine v_aload_n 4 dX1_obeys_153 rfl rfl ?_
    refine v_iload 0 dX1_obeys_154 rfl ?_
    refine u_callVv [.int (nI lo)] [] 1 (c_X1_pass lu Dg E N G shp σ hH c hI (p := lo) (by omega)) (ci := 1) (C := RX1) (T := TX1) (NF := 11) hH.n hH.s rfl gX1_obeys_X1_pass rfl rfl rfl (by decide +kernel) rfl ⟨Nat.le_of_ble_eq_true rfl, Nat.le_of_ble_eq_true rfl⟩ ⟨Nat.le_of_ble_eq_true rfl, Nat.le_of_ble_eq_true rfl⟩ (Nat.le_of_ble_eq_true rfl) rfl dX1_obeys_156 ?_
    have hj5 := hI.jump5
    have hjs : jsteps c lo ≤ 5 := Nat.le_trans (Nat.min_le_right _ _) hj5
    refine v_iconst ((-1)) dX1_obeys_159 (by decide +kernel) ?_
    refine v_icmp_eq 167 dX1_obeys_160 rfl (fun h160 => ?_) (fun h160 => ?_)
    · skip
      refine v_iconst (nI 0) dX1_obeys_167 (by decide +kernel) ?_
      refine v_zret rfl (by decide +kernel) dX1_obeys_168 ⟨congrArg (fun z => some (Value.int z)) ?_, congrArg (φ shp) ?_⟩
      · exact bi_nf (fun z9 => (ic_m1 (n := jsteps c lo) (by omega)).mp h160 z9.2)
      · rw [ic_and (P := hi = 0) (by omega)]
    · skip
      refine v_iconst (nI 1) dX1_obeys_163 (by decide +kernel) ?_
      refine v_goto 168 dX1_obeys_164 rfl ?_
      refine v_zret rfl (by decide +kernel) dX1_obeys_168 ⟨congrArg (fun z => some (Value.int z)) ?_, congrArg (φ shp) ?_⟩
      · exact bi_nt ⟨by omega, (Classical.not_not.mp (fun z9 => h160 ((ic_m1 (n := jsteps c lo) (by omega)).mpr z9)))⟩
      · rw [ic_and (P := hi = 0) (by omega)]

set_option maxHeartbeats 4000000 in
set_option maxRecDepth 100000 in
/-- obeys 5 -/
theorem c_X1_obeys_5 (lu : Launch) (Dg : va_G) (E : Nat → ClassId) (N : Nat) (G : Nat → Nat) (shp : Nat → (Nat → Int32) → va_E) (σ : Nat → Nat → Int32) {b : Nat} (hH : HallS E G shp N b) (c : Nat → Int32) {T : Nat} (hI : Inv T c) {g a z hi lo : Nat} (hg : g < 100000) (ha : g / 1000 % 10 = a) (hz : g / 100 % 10 = z) (hh : g / 100 % 100 = hi) (hl : g % 100 = lo) (hm : g / 10000 = 5)  : CS lu yX1_obeys wsX1_obeys { frames := 4, cells := 0, slots := 0, locals := 92 } Dg E N G shp (hs σ b c) [.ref (G b), .int (nI g)] (some (.int (bi (lo = 0 ∧ (mergeFl c (nI a) (nI z) = 0))))) (hs σ b (ic (lo = 0 ∧ (mergeFl c (nI a) (nI z) = 0)) (mergesF c a z) c)) := by
  refine CS.of (cc := cX1_obeys) (maxL := 6) (ret := (some .boolean)) (by decide) rfl (Nat.le_of_ble_eq_true rfl) ?_
  intro p_ e_ s_ m_ args_ below_ meth_ c_
  refine v_eq (pc' := 0) (st' := []) rfl rfl ?_
  refine v_loc [0, 1] [(0, .ref (G b)), (1, .int (nI g))] rfl ?_
  have ha10 : a < 10 := by omega
  have hc10 : z < 10 := by omega
  have hh100 : hi < 100 := by omega
  have hl100 : lo < 100 := by omega
  have hnp30 := hI.np30
  have hnl3 := hI.nl3
  refine v_iload_n 1 dX1_obeys_0 rfl rfl ?_
  refine v_sipush (nI 1000) dX1_obeys_1 (by decide +kernel) ?_
  refine v_idivN (by omega) (by omega) (by omega) dX1_obeys_4 ?_
  refine v_bipush (nI 10) dX1_obeys_5 (by decide +kernel) ?_
  refine v_iremN (by omega) (by omega) (by omega) dX1_obeys_7 ?_
  refine v_topi (nI a) (congrArg nI ha) ?_
  refine v_istore_n [(2, .int (nI a)), (0, .ref (G b)), (1, .int (nI g))] dX1_obeys_8 rfl (by decide) rfl ?_
  refine v_iload_n 2 dX1_obeys_9 rfl rfl ?_
  refine v_bipush (nI 100) dX1_obeys_10 (by decide +kernel) ?_
  refine v_idivN (by omega) (by omega) (by omega) dX1_obeys_12 ?_
  refine v_bipush (nI 10) dX1_obeys_13 (by decide +kernel) ?_
  refine v_iremN (by omega) (by omega) (by omega) dX1_obeys_15 ?_
  refine v_topi (nI z) (congrArg nI hz) ?_
  refine v_istore_n [(3, .int (nI z)), (2, .int (nI a)), (0, .ref (G b)), (1, .int (nI g))] dX1_obeys_16 rfl (by decide) rfl ?_
  refine v_iload_n 3 dX1_obeys_17 rfl rfl ?_
  refine v_bipush (nI 100) dX1_obeys_18 (by decide +kernel) ?_
  refine v_idivN (by omega) (by omega) (by omega) dX1_obeys_20 ?_
  refine v_bipush (nI 100) dX1_obeys_21 (by decide +kernel) ?_
  refine v_iremN (by omega) (by omega) (by omega) dX1_obeys_23 ?_
  refine v_topi (nI hi) (congrArg nI hh) ?_
  refine v_istore [(4, .int (nI hi)), (3, .int (nI z)), (2, .int (nI a)), (0, .ref (G b)), (1, .int (nI g))] dX1_obeys_24 (by decide) rfl ?_
  refine v_iload_n 4 dX1_obeys_26 rfl rfl ?_
  refine v_bipush (nI 100) dX1_obeys_27 (by decide +kernel) ?_
  refine v_iremN (by omega) (by omega) (by omega) dX1_obeys_29 ?_
  refine v_topi (nI lo) (congrArg nI hl) ?_
  refine v_istore [(5, .int (nI lo)), (4, .int (nI hi)), (3, .int (nI z)), (2, .int (nI a)), (0, .ref (G b)), (1, .int (nI g))] dX1_obeys_30 (by decide) rfl ?_
  refine v_iload_n 5 dX1_obeys_32 rfl rfl ?_
  refine v_sipush (nI 10000) dX1_obeys_33 (by decide +kernel) ?_
  refine v_idivN (by omega) (by omega) (by omega) dX1_obeys_36 ?_
  refine v_topi (nI 5) (congrArg nI hm) ?_
  refine v_tableIn (off := 132) 169 dX1_obeys_37 (by decide +kernel) (by decide +kernel) (by decide +kernel) rfl ?_
  refine v_iload 0 dX1_obeys_169 rfl ?_
  refine v_if_neN 188 (by omega) dX1_obeys_171 rfl (fun h171 => ?_) (fun h171 => ?_)
  · skip
    refine v_iconst (nI 0) dX1_obeys_188 (by decide +kernel) ?_
    refine v_zret rfl (by decide +kernel) dX1_obeys_189 ⟨congrArg (fun z => some (Value.int z)) ?_, congrArg (φ shp) ?_⟩
    · exact bi_nf (fun z9 => by have := z9.1; omega)
    · rw [ic_nand (P := lo = 0) (by omega)]
  · skip
    refine v_aload_n 4 dX1_obeys_174 rfl rfl ?_
    refine v_iload_n 3 dX1_obeys_175 rfl rfl ?_
    refine v_iload_n 2 dX1_obeys_176 rfl rfl ?_
    refine u_callVv [.int (nI a), .int (nI z)] [] 2 (c_X1_unite lu Dg E N G shp σ hH c hI (y := a) (o := z) (by omega) (by omega)) (ci := 1) (C := RX1) (T := TX1) (NF := 11) hH.n hH.s rfl gX1_obeys_X1_unite rfl rfl rfl (by decide +kernel) rfl ⟨Nat.le_of_ble_eq_true rfl, Nat.le_of_ble_eq_true rfl⟩ ⟨Nat.le_of_ble_eq_true rfl, Nat.le_of_ble_eq_true rfl⟩ (Nat.le_of_ble_eq_true rfl) rfl dX1_obeys_177 ?_
    refine v_topi (ic (mergeFl c (nI a) (nI z) = 0) (nI (min 12 (tn (c (13 + a)) + tn (c (13 + z))))) (-1)) ((by by_cases q9 : mergeFl c (nI a) (nI z) = 0; rw [ic_t q9, ic_t q9, Nat.min_eq_right (merge_ok hI (by omega) (by omega) q9).2.2.2]; rw [ic_f q9, ic_f q9])) ?_
    refine v_iconst ((-1)) dX1_obeys_180 (by decide +kernel) ?_
    refine v_icmp_eq 188 dX1_obeys_181 rfl (fun h181 => ?_) (fun h181 => ?_)
    · skip
      refine v_iconst (nI 0) dX1_obeys_188 (by decide +kernel) ?_
      refine v_zret rfl (by decide +kernel) dX1_obeys_189 ⟨congrArg (fun z => some (Value.int z)) ?_, congrArg (φ shp) ?_⟩
      · exact bi_nf (fun z9 => (ic_m1 (n := min 12 (tn (c (13 + a)) + tn (c (13 + z)))) (by omega)).mp h181 z9.2)
      · rw [ic_and (P := lo = 0) (by omega)]
    · skip
      refine v_iconst (nI 1) dX1_obeys_184 (by decide +kernel) ?_
      refine v_goto 189 dX1_obeys_185 rfl ?_
      refine v_zret rfl (by decide +kernel) dX1_obeys_189 ⟨congrArg (fun z => some (Value.int z)) ?_, congrArg (φ shp) ?_⟩
      · exact bi_nt ⟨by omega, (Classical.not_not.mp (fun z9 => h181 ((ic_m1 (n := min 12 (tn (c (13 + a)) + tn (c (13 + z)))) (by omega)).mpr z9)))⟩
      · rw [ic_and (P := lo = 0) (by omega)]

theorem workN_le (s : Nat → Int32) : ∀ n, workN s n ≤ n
  | 0 => Nat.le_refl _
  | n + 1 => by
    have h1 := workN_le s n
    have h2 : wkN (workTo s n) n ≤ 1 := by unfold wkN ic; repeat' split
                                           all_goals omega
    simp only [workN]; omega
theorem goByN_le {T : Nat} {s : Nat → Int32} (h : Inv T s) : ∀ {n : Nat}, T + n ≤ 1000000 → goByN s n ≤ 3 * n
  | 0, _ => Nat.le_refl _
  | n + 1, hn => by
    have h1 := goByN_le h (n := n) (by omega)
    have h2 := (h.goBy (n := n) (by omega)).nl3
    have h3 := workN_le (min1 (goByS s n)) (tn (goByS s n 1))
    simp only [goByN, minuteN]; omega
set_option maxHeartbeats 4000000 in
set_option maxRecDepth 100000 in
/-- obeys 6 -/
theorem c_X1_obeys_6 (lu : Launch) (Dg : va_G) (E : Nat → ClassId) (N : Nat) (G : Nat → Nat) (shp : Nat → (Nat → Int32) → va_E) (σ : Nat → Nat → Int32) {b : Nat} (hH : HallS E G shp N b) (c : Nat → Int32) {T : Nat} (hI : Inv T c) {g a z hi lo : Nat} (hg : g < 100000) (ha : g / 1000 % 10 = a) (hz : g / 100 % 10 = z) (hh : g / 100 % 100 = hi) (hl : g % 100 = lo) (hm : g / 10000 = 6) (hT : T ≤ 999900)  : CS lu yX1_obeys wsX1_obeys { frames := 4, cells := 0, slots := 0, locals := 92 } Dg E N G shp (hs σ b c) [.ref (G b), .int (nI g)] (some (.int (bi (hi = 0 ∧ 1 ≤ lo ∧ lo ≤ 60)))) (hs σ b (ic (hi = 0 ∧ 1 ≤ lo ∧ lo ≤ 60) (goByS c lo) c)) := by
  refine CS.of (cc := cX1_obeys) (maxL := 6) (ret := (some .boolean)) (by decide) rfl (Nat.le_of_ble_eq_true rfl) ?_
  intro p_ e_ s_ m_ args_ below_ meth_ c_
  refine v_eq (pc' := 0) (st' := []) rfl rfl ?_
  refine v_loc [0, 1] [(0, .ref (G b)), (1, .int (nI g))] rfl ?_
  have ha10 : a < 10 := by omega
  have hc10 : z < 10 := by omega
  have hh100 : hi < 100 := by omega
  have hl100 : lo < 100 := by omega
  have hnp30 := hI.np30
  have hnl3 := hI.nl3
  refine v_iload_n 1 dX1_obeys_0 rfl rfl ?_
  refine v_sipush (nI 1000) dX1_obeys_1 (by decide +kernel) ?_
  refine v_idivN (by omega) (by omega) (by omega) dX1_obeys_4 ?_
  refine v_bipush (nI 10) dX1_obeys_5 (by decide +kernel) ?_
  refine v_iremN (by omega) (by omega) (by omega) dX1_obeys_7 ?_
  refine v_topi (nI a) (congrArg nI ha) ?_
  refine v_istore_n [(2, .int (nI a)), (0, .ref (G b)), (1, .int (nI g))] dX1_obeys_8 rfl (by decide) rfl ?_
  refine v_iload_n 2 dX1_obeys_9 rfl rfl ?_
  refine v_bipush (nI 100) dX1_obeys_10 (by decide +kernel) ?_
  refine v_idivN (by omega) (by omega) (by omega) dX1_obeys_12 ?_
  refine v_bipush (nI 10) dX1_obeys_13 (by decide +kernel) ?_
  refine v_iremN (by omega) (by omega) (by omega) dX1_obeys_15 ?_
  refine v_topi (nI z) (congrArg nI hz) ?_
  refine v_istore_n [(3, .int (nI z)), (2, .int (nI a)), (0, .ref (G b)), (1, .int (nI g))] dX1_obeys_16 rfl (by decide) rfl ?_
  refine v_iload_n 3 dX1_obeys_17 rfl rfl ?_
  refine v_bipush (nI 100) dX1_obeys_18 (by decide +kernel) ?_
  refine v_idivN (by omega) (by omega) (by omega) dX1_obeys_20 ?_
  refine v_bipush (nI 100) dX1_obeys_21 (by decide +kernel) ?_
  refine v_iremN (by omega) (by omega) (by omega) dX1_obeys_23 ?_
  refine v_topi (nI hi) (congrArg nI hh) ?_
  refine v_istore [(4, .int (nI hi)), (3, .int (nI z)), (2, .int (nI a)), (0, .ref (G b)), (1, .int (nI g))] dX1_obeys_24 (by decide) rfl ?_
  refine v_iload_n 4 dX1_obeys_26 rfl rfl ?_
  refine v_bipush (nI 100) dX1_obeys_27 (by decide +kernel) ?_
  refine v_iremN (by omega) (by omega) (by omega) dX1_obeys_29 ?_
  refine v_topi (nI lo) (congrArg nI hl) ?_
  refine v_istore [(5, .int (nI lo)), (4, .int (nI hi)), (3, .int (nI z)), (2, .int (nI a)), (0, .ref (G b)), (1, .int (nI g))] dX1_obeys_30 (by decide) rfl ?_
  refine v_iload_n 5 dX1_obeys_32 rfl rfl ?_
  refine v_sipush (nI 10000) dX1_obeys_33 (by decide +kernel) ?_
  refine v_idivN (by omega) (by omega) (by omega) dX1_obeys_36 ?_
  refine v_topi (nI 6) (congrArg nI hm) ?_
  refine v_tableIn (off := 153) 190 dX1_obeys_37 (by decide +kernel) (by decide +kernel) (by decide +kernel) rfl ?_
  refine v_iload 1 dX1_obeys_190 rfl ?_
  refine v_if_neN 222 (by omega) dX1_obeys_192 rfl (fun h192 => ?_) (fun h192 => ?_)
  · skip
    refine v_iconst (nI 0) dX1_obeys_222 (by decide +kernel) ?_
    refine v_zret rfl (by decide +kernel) dX1_obeys_223 ⟨congrArg (fun z => some (Value.int z)) ?_, congrArg (φ shp) ?_⟩
    · exact bi_nf (fun z9 => by have := z9.1; have := z9.2.1; have := z9.2.2; omega)
    · rw [ic_f (fun z9 => by have := z9.1; have := z9.2.1; have := z9.2.2; omega)]
  · skip
    refine v_iload 0 dX1_obeys_195 rfl ?_
    refine v_iconst (nI 1) dX1_obeys_197 (by decide +kernel) ?_
    refine v_icmp_ltN 222 (by omega) (by omega) dX1_obeys_198 rfl (fun h198 => ?_) (fun h198 => ?_)
    · skip
      refine v_iconst (nI 0) dX1_obeys_222 (by decide +kernel) ?_
      refine v_zret rfl (by decide +kernel) dX1_obeys_223 ⟨congrArg (fun z => some (Value.int z)) ?_, congrArg (φ shp) ?_⟩
      · exact bi_nf (fun z9 => by have := z9.1; have := z9.2.1; have := z9.2.2; omega)
      · rw [ic_f (fun z9 => by have := z9.1; have := z9.2.1; have := z9.2.2; omega)]
    · skip
      refine v_iload 0 dX1_obeys_201 rfl ?_
      refine v_bipush (nI 60) dX1_obeys_203 (by decide +kernel) ?_
      refine v_icmp_gtN 222 (by omega) (by omega) dX1_obeys_205 rfl (fun h205 => ?_) (fun h205 => ?_)
      · skip
        refine v_iconst (nI 0) dX1_obeys_222 (by decide +kernel) ?_
        refine v_zret rfl (by decide +kernel) dX1_obeys_223 ⟨congrArg (fun z => some (Value.int z)) ?_, congrArg (φ shp) ?_⟩
        · exact bi_nf (fun z9 => by have := z9.1; have := z9.2.1; have := z9.2.2; omega)
        · rw [ic_f (fun z9 => by have := z9.1; have := z9.2.1; have := z9.2.2; omega)]
      · skip
        refine v_aload_n 4 dX1_obeys_208 rfl rfl ?_
        refine v_iload 0 dX1_obeys_209 rfl ?_
        refine u_callVv [.int (nI lo)] [] 1 (c_X1_letPass lu Dg E N G shp σ hH c lo (by omega) (fun j hj => ⟨_, hI.goBy (n := j) (by omega)⟩)) (ci := 1) (C := RX1) (T := TX1) (NF := 11) hH.n hH.s rfl gX1_obeys_X1_letPass rfl rfl rfl (by decide +kernel) rfl ⟨Nat.le_of_ble_eq_true rfl, Nat.le_of_ble_eq_true rfl⟩ ⟨Nat.le_of_ble_eq_true rfl, Nat.le_of_ble_eq_true rfl⟩ (Nat.le_of_ble_eq_true rfl) rfl dX1_obeys_211 ?_
        have hgb := goByN_le hI (n := lo) (by omega)
        refine v_iconst ((-1)) dX1_obeys_214 (by decide +kernel) ?_
        refine v_icmp_eq 222 dX1_obeys_215 rfl (fun h215 => ?_) (fun h215 => ?_)
        · skip
          exact absurd h215 (nI_m1 (by omega))
        · skip
          refine v_iconst (nI 1) dX1_obeys_218 (by decide +kernel) ?_
          refine v_goto 223 dX1_obeys_219 rfl ?_
          refine v_zret rfl (by decide +kernel) dX1_obeys_223 ⟨congrArg (fun z => some (Value.int z)) ?_, congrArg (φ shp) ?_⟩
          · exact bi_nt ⟨by omega, by omega, by omega⟩
          · rw [ic_t ⟨by omega, by omega, by omega⟩]

set_option maxRecDepth 100000 in
theorem inX1_obeys_X4 : ∀ w ∈ wsX40, w ∈ wsX1_obeys := by decide +kernel
set_option maxHeartbeats 4000000 in
set_option maxRecDepth 100000 in
/-- obeys 7 -/
theorem c_X1_obeys_7 (lu : Launch) (Dg : va_G) (E : Nat → ClassId) (N : Nat) (G : Nat → Nat) (shp : Nat → (Nat → Int32) → va_E) (σ : Nat → Nat → Int32) {b : Nat} (hH : HallS E G shp N b) (c : Nat → Int32) {T : Nat} (hI : Inv T c) {g a z hi lo : Nat} (hg : g < 100000) (ha : g / 1000 % 10 = a) (hz : g / 100 % 10 = z) (hh : g / 100 % 100 = hi) (hl : g % 100 = lo) (hm : g / 10000 = 7)  : CS lu yX1_obeys wsX1_obeys { frames := 4, cells := 0, slots := 0, locals := 92 } Dg E N G shp (hs σ b c) [.ref (G b), .int (nI g)] (some (.int (bi (hi = 0 ∧ Rg (tn (c 2)) (nI lo) ∧ c (58 + 10 * lo + 5) = nI 1)))) (hs σ b c) := by
  refine CS.of (cc := cX1_obeys) (maxL := 6) (ret := (some .boolean)) (by decide) rfl (Nat.le_of_ble_eq_true rfl) ?_
  intro p_ e_ s_ m_ args_ below_ meth_ c_
  refine v_eq (pc' := 0) (st' := []) rfl rfl ?_
  refine v_loc [0, 1] [(0, .ref (G b)), (1, .int (nI g))] rfl ?_
  have ha10 : a < 10 := by omega
  have hc10 : z < 10 := by omega
  have hh100 : hi < 100 := by omega
  have hl100 : lo < 100 := by omega
  have hnp30 := hI.np30
  have hnl3 := hI.nl3
  refine v_iload_n 1 dX1_obeys_0 rfl rfl ?_
  refine v_sipush (nI 1000) dX1_obeys_1 (by decide +kernel) ?_
  refine v_idivN (by omega) (by omega) (by omega) dX1_obeys_4 ?_
  refine v_bipush (nI 10) dX1_obeys_5 (by decide +kernel) ?_
  refine v_iremN (by omega) (by omega) (by omega) dX1_obeys_7 ?_
  refine v_topi (nI a) (congrArg nI ha) ?_
  refine v_istore_n [(2, .int (nI a)), (0, .ref (G b)), (1, .int (nI g))] dX1_obeys_8 rfl (by decide) rfl ?_
  refine v_iload_n 2 dX1_obeys_9 rfl rfl ?_
  refine v_bipush (nI 100) dX1_obeys_10 (by decide +kernel) ?_
  refine v_idivN (by omega) (by omega) (by omega) dX1_obeys_12 ?_
  refine v_bipush (nI 10) dX1_obeys_13 (by decide +kernel) ?_
  refine v_iremN (by omega) (by omega) (by omega) dX1_obeys_15 ?_
  refine v_topi (nI z) (congrArg nI hz) ?_
  refine v_istore_n [(3, .int (nI z)), (2, .int (nI a)), (0, .ref (G b)), (1, .int (nI g))] dX1_obeys_16 rfl (by decide) rfl ?_
  refine v_iload_n 3 dX1_obeys_17 rfl rfl ?_
  refine v_bipush (nI 100) dX1_obeys_18 (by decide +kernel) ?_
  refine v_idivN (by omega) (by omega) (by omega) dX1_obeys_20 ?_
  refine v_bipush (nI 100) dX1_obeys_21 (by decide +kernel) ?_
  refine v_iremN (by omega) (by omega) (by omega) dX1_obeys_23 ?_
  refine v_topi (nI hi) (congrArg nI hh) ?_
  refine v_istore [(4, .int (nI hi)), (3, .int (nI z)), (2, .int (nI a)), (0, .ref (G b)), (1, .int (nI g))] dX1_obeys_24 (by decide) rfl ?_
  refine v_iload_n 4 dX1_obeys_26 rfl rfl ?_
  refine v_bipush (nI 100) dX1_obeys_27 (by decide +kernel) ?_
  refine v_iremN (by omega) (by omega) (by omega) dX1_obeys_29 ?_
  refine v_topi (nI lo) (congrArg nI hl) ?_
  refine v_istore [(5, .int (nI lo)), (4, .int (nI hi)), (3, .int (nI z)), (2, .int (nI a)), (0, .ref (G b)), (1, .int (nI g))] dX1_obeys_30 (by decide) rfl ?_
  refine v_iload_n 5 dX1_obeys_32 rfl rfl ?_
  refine v_sipush (nI 10000) dX1_obeys_33 (by decide +kernel) ?_
  refine v_idivN (by omega) (by omega) (by omega) dX1_obeys_36 ?_
  refine v_topi (nI 7) (congrArg nI hm) ?_
  refine v_tableIn (off := 187) 224 dX1_obeys_37 (by decide +kernel) (by decide +kernel) (by decide +kernel) rfl ?_
  refine v_iload 1 dX1_obeys_224 rfl ?_
  refine v_if_neN 255 (by omega) dX1_obeys_226 rfl (fun h226 => ?_) (fun h226 => ?_)
  · skip
    refine v_iconst (nI 0) dX1_obeys_255 (by decide +kernel) ?_
    refine v_zret rfl (by decide +kernel) dX1_obeys_256 ⟨congrArg (fun z => some (Value.int z)) ?_, congrArg (φ shp) ?_⟩
    · exact bi_nf (fun z9 => by first | (have := z9.1; omega) | exact absurd z9.2.1 h235 | exact absurd z9.2.2 h248)
    · rfl
  · skip
    refine v_aload_n 4 dX1_obeys_229 rfl rfl ?_
    refine v_iload 0 dX1_obeys_230 rfl ?_
    refine u_callVv [.int (nI lo)] [] 1 (c_X1_isPerson lu Dg E N G shp σ hH c hI.np (by have := hI.np30; omega) (nI lo)) (ci := 1) (C := RX1) (T := TX1) (NF := 11) hH.n hH.s rfl gX1_obeys_X1_isPerson rfl rfl rfl (by decide +kernel) rfl ⟨Nat.le_of_ble_eq_true rfl, Nat.le_of_ble_eq_true rfl⟩ ⟨Nat.le_of_ble_eq_true rfl, Nat.le_of_ble_eq_true rfl⟩ (Nat.le_of_ble_eq_true rfl) rfl dX1_obeys_232 ?_
    refine v_if_eqB 255 dX1_obeys_235 rfl (fun h235 => ?_) (fun h235 => ?_)
    · skip
      refine v_iconst (nI 0) dX1_obeys_255 (by decide +kernel) ?_
      refine v_zret rfl (by decide +kernel) dX1_obeys_256 ⟨congrArg (fun z => some (Value.int z)) ?_, congrArg (φ shp) ?_⟩
      · exact bi_nf (fun z9 => by first | (have := z9.1; omega) | exact absurd z9.2.1 h235 | exact absurd z9.2.2 h248)
      · rfl
    · skip
      have hlp := (Rg_nI (by omega) (by omega)).mp h235
      refine v_aload_n 4 dX1_obeys_238 rfl rfl ?_
      refine v_iload 0 dX1_obeys_239 rfl ?_
      refine u_callVv [.int (nI lo)] [] 1 (c_X1_personOf lu Dg E N G shp σ hH c (k := lo) (by omega)) (ci := 1) (C := RX1) (T := TX1) (NF := 11) hH.n hH.s rfl gX1_obeys_X1_personOf rfl rfl rfl (by decide +kernel) rfl ⟨Nat.le_of_ble_eq_true rfl, Nat.le_of_ble_eq_true rfl⟩ ⟨Nat.le_of_ble_eq_true rfl, Nat.le_of_ble_eq_true rfl⟩ (Nat.le_of_ble_eq_true rfl) rfl dX1_obeys_241 ?_
      refine p_geti (g := c) (k := 2) (q := lo) (by omega) (c (58 + 10 * lo + 5)) hH rfl (pF2 _ _) inX1_obeys_X4 (by decide) (by decide +kernel) rfl dX1_obeys_244 ?_
      refine v_iconst (nI 1) dX1_obeys_247 (by decide +kernel) ?_
      refine v_icmp_ne 255 dX1_obeys_248 rfl (fun h248 => ?_) (fun h248 => ?_)
      · skip
        refine v_iconst (nI 0) dX1_obeys_255 (by decide +kernel) ?_
        refine v_zret rfl (by decide +kernel) dX1_obeys_256 ⟨congrArg (fun z => some (Value.int z)) ?_, congrArg (φ shp) ?_⟩
        · exact bi_nf (fun z9 => by first | (have := z9.1; omega) | exact absurd z9.2.1 h235 | exact absurd z9.2.2 h248)
        · rfl
      · skip
        refine v_iconst (nI 1) dX1_obeys_251 (by decide +kernel) ?_
        refine v_goto 256 dX1_obeys_252 rfl ?_
        refine v_zret rfl (by decide +kernel) dX1_obeys_256 ⟨congrArg (fun z => some (Value.int z)) ?_, congrArg (φ shp) ?_⟩
        · exact bi_nt ⟨by omega, h235, h248⟩
        · rfl

set_option maxHeartbeats 4000000 in
set_option maxRecDepth 100000 in
/-- obeys 8 -/
theorem c_X1_obeys_8 (lu : Launch) (Dg : va_G) (E : Nat → ClassId) (N : Nat) (G : Nat → Nat) (shp : Nat → (Nat → Int32) → va_E) (σ : Nat → Nat → Int32) {b : Nat} (hH : HallS E G shp N b) (c : Nat → Int32) {T : Nat} (hI : Inv T c) {g a z hi lo : Nat} (hg : g < 100000) (ha : g / 1000 % 10 = a) (hz : g / 100 % 10 = z) (hh : g / 100 % 100 = hi) (hl : g % 100 = lo) (hm : g / 10000 = 8)  : CS lu yX1_obeys wsX1_obeys { frames := 4, cells := 0, slots := 0, locals := 92 } Dg E N G shp (hs σ b c) [.ref (G b), .int (nI g)] (some (.int (bi ((hi < tn (c 2) ∧ c (58 + 10 * hi + 5) = 0) ∧ plc c hi = lo)))) (hs σ b c) := by
  refine CS.of (cc := cX1_obeys) (maxL := 6) (ret := (some .boolean)) (by decide) rfl (Nat.le_of_ble_eq_true rfl) ?_
  intro p_ e_ s_ m_ args_ below_ meth_ c_
  refine v_eq (pc' := 0) (st' := []) rfl rfl ?_
  refine v_loc [0, 1] [(0, .ref (G b)), (1, .int (nI g))] rfl ?_
  have ha10 : a < 10 := by omega
  have hc10 : z < 10 := by omega
  have hh100 : hi < 100 := by omega
  have hl100 : lo < 100 := by omega
  have hnp30 := hI.np30
  have hnl3 := hI.nl3
  refine v_iload_n 1 dX1_obeys_0 rfl rfl ?_
  refine v_sipush (nI 1000) dX1_obeys_1 (by decide +kernel) ?_
  refine v_idivN (by omega) (by omega) (by omega) dX1_obeys_4 ?_
  refine v_bipush (nI 10) dX1_obeys_5 (by decide +kernel) ?_
  refine v_iremN (by omega) (by omega) (by omega) dX1_obeys_7 ?_
  refine v_topi (nI a) (congrArg nI ha) ?_
  refine v_istore_n [(2, .int (nI a)), (0, .ref (G b)), (1, .int (nI g))] dX1_obeys_8 rfl (by decide) rfl ?_
  refine v_iload_n 2 dX1_obeys_9 rfl rfl ?_
  refine v_bipush (nI 100) dX1_obeys_10 (by decide +kernel) ?_
  refine v_idivN (by omega) (by omega) (by omega) dX1_obeys_12 ?_
  refine v_bipush (nI 10) dX1_obeys_13 (by decide +kernel) ?_
  refine v_iremN (by omega) (by omega) (by omega) dX1_obeys_15 ?_
  refine v_topi (nI z) (congrArg nI hz) ?_
  refine v_istore_n [(3, .int (nI z)), (2, .int (nI a)), (0, .ref (G b)), (1, .int (nI g))] dX1_obeys_16 rfl (by decide) rfl ?_
  refine v_iload_n 3 dX1_obeys_17 rfl rfl ?_
  refine v_bipush (nI 100) dX1_obeys_18 (by decide +kernel) ?_
  refine v_idivN (by omega) (by omega) (by omega) dX1_obeys_20 ?_
  refine v_bipush (nI 100) dX1_obeys_21 (by decide +kernel) ?_
  refine v_iremN (by omega) (by omega) (by omega) dX1_obeys_23 ?_
  refine v_topi (nI hi) (congrArg nI hh) ?_
  refine v_istore [(4, .int (nI hi)), (3, .int (nI z)), (2, .int (nI a)), (0, .ref (G b)), (1, .int (nI g))] dX1_obeys_24 (by decide) rfl ?_
  refine v_iload_n 4 dX1_obeys_26 rfl rfl ?_
  refine v_bipush (nI 100) dX1_obeys_27 (by decide +kernel) ?_
  refine v_iremN (by omega) (by omega) (by omega) dX1_obeys_29 ?_
  refine v_topi (nI lo) (congrArg nI hl) ?_
  refine v_istore [(5, .int (nI lo)), (4, .int (nI hi)), (3, .int (nI z)), (2, .int (nI a)), (0, .ref (G b)), (1, .int (nI g))] dX1_obeys_30 (by decide) rfl ?_
  refine v_iload_n 5 dX1_obeys_32 rfl rfl ?_
  refine v_sipush (nI 10000) dX1_obeys_33 (by decide +kernel) ?_
  refine v_idivN (by omega) (by omega) (by omega) dX1_obeys_36 ?_
  refine v_topi (nI 8) (congrArg nI hm) ?_
  refine v_tableIn (off := 220) 257 dX1_obeys_37 (by decide +kernel) (by decide +kernel) (by decide +kernel) rfl ?_
  refine v_aload_n 4 dX1_obeys_257 rfl rfl ?_
  refine v_iload 1 dX1_obeys_258 rfl ?_
  refine u_callVv [.int (nI hi)] [] 1 (c_X1_stands lu Dg E N G shp σ hH c hI.np hI.np30 (p := hi) (by omega)) (ci := 1) (C := RX1) (T := TX1) (NF := 11) hH.n hH.s rfl gX1_obeys_X1_stands rfl rfl rfl (by decide +kernel) rfl ⟨Nat.le_of_ble_eq_true rfl, Nat.le_of_ble_eq_true rfl⟩ ⟨Nat.le_of_ble_eq_true rfl, Nat.le_of_ble_eq_true rfl⟩ (Nat.le_of_ble_eq_true rfl) rfl dX1_obeys_260 ?_
  refine v_if_eqB 281 dX1_obeys_263 rfl (fun h263 => ?_) (fun h263 => ?_)
  · skip
    refine v_iconst (nI 0) dX1_obeys_281 (by decide +kernel) ?_
    refine v_zret rfl (by decide +kernel) dX1_obeys_282 ⟨congrArg (fun z => some (Value.int z)) ?_, congrArg (φ shp) ?_⟩
    · exact bi_nf (fun z9 => by first | exact absurd z9.1 h263 | exact absurd z9.2 h274)
    · rfl
  · skip
    have hqq := hI.plcs h263.1 h263.2
    have hq12 := hI.len12 hqq.1
    have hq3 := hqq.2.2.1
    refine v_aload_n 4 dX1_obeys_266 rfl rfl ?_
    refine v_iload 1 dX1_obeys_267 rfl ?_
    refine u_callVv [.int (nI hi)] [] 1 (c_X1_placeOf lu Dg E N G shp σ hH c hI (p := hi) h263.1 h263.2) (ci := 1) (C := RX1) (T := TX1) (NF := 11) hH.n hH.s rfl gX1_obeys_X1_placeOf rfl rfl rfl (by decide +kernel) rfl ⟨Nat.le_of_ble_eq_true rfl, Nat.le_of_ble_eq_true rfl⟩ ⟨Nat.le_of_ble_eq_true rfl, Nat.le_of_ble_eq_true rfl⟩ (Nat.le_of_ble_eq_true rfl) rfl dX1_obeys_269 ?_
    refine v_iload 0 dX1_obeys_272 rfl ?_
    refine v_icmp_neN 281 (by omega) (by omega) dX1_obeys_274 rfl (fun h274 => ?_) (fun h274 => ?_)
    · skip
      refine v_iconst (nI 0) dX1_obeys_281 (by decide +kernel) ?_
      refine v_zret rfl (by decide +kernel) dX1_obeys_282 ⟨congrArg (fun z => some (Value.int z)) ?_, congrArg (φ shp) ?_⟩
      · exact bi_nf (fun z9 => by first | exact absurd z9.1 h263 | exact absurd z9.2 h274)
      · rfl
    · skip
      refine v_iconst (nI 1) dX1_obeys_277 (by decide +kernel) ?_
      refine v_goto 282 dX1_obeys_278 rfl ?_
      refine v_zret rfl (by decide +kernel) dX1_obeys_282 ⟨congrArg (fun z => some (Value.int z)) ?_, congrArg (φ shp) ?_⟩
      · exact bi_nt ⟨h263, h274⟩
      · rfl

set_option maxRecDepth 100000 in
theorem inX1_obeys_X1 : ∀ w ∈ wsX10, w ∈ wsX1_obeys := by decide +kernel
set_option maxHeartbeats 4000000 in
set_option maxRecDepth 100000 in
/-- obeys 9 -/
theorem c_X1_obeys_9 (lu : Launch) (Dg : va_G) (E : Nat → ClassId) (N : Nat) (G : Nat → Nat) (shp : Nat → (Nat → Int32) → va_E) (σ : Nat → Nat → Int32) {b : Nat} (hH : HallS E G shp N b) (c : Nat → Int32) {T : Nat} (hI : Inv T c) {g a z hi lo : Nat} (hg : g < 100000) (ha : g / 1000 % 10 = a) (hz : g / 100 % 10 = z) (hh : g / 100 % 100 = hi) (hl : g % 100 = lo) (hm : g / 10000 = 9)  : CS lu yX1_obeys wsX1_obeys { frames := 4, cells := 0, slots := 0, locals := 92 } Dg E N G shp (hs σ b c) [.ref (G b), .int (nI g)] (some (.int (bi (a = 0 ∧ c 5 ≤ nI (g % 1000))))) (hs σ b c) := by
  refine CS.of (cc := cX1_obeys) (maxL := 6) (ret := (some .boolean)) (by decide) rfl (Nat.le_of_ble_eq_true rfl) ?_
  intro p_ e_ s_ m_ args_ below_ meth_ c_
  refine v_eq (pc' := 0) (st' := []) rfl rfl ?_
  refine v_loc [0, 1] [(0, .ref (G b)), (1, .int (nI g))] rfl ?_
  have ha10 : a < 10 := by omega
  have hc10 : z < 10 := by omega
  have hh100 : hi < 100 := by omega
  have hl100 : lo < 100 := by omega
  have hnp30 := hI.np30
  have hnl3 := hI.nl3
  refine v_iload_n 1 dX1_obeys_0 rfl rfl ?_
  refine v_sipush (nI 1000) dX1_obeys_1 (by decide +kernel) ?_
  refine v_idivN (by omega) (by omega) (by omega) dX1_obeys_4 ?_
  refine v_bipush (nI 10) dX1_obeys_5 (by decide +kernel) ?_
  refine v_iremN (by omega) (by omega) (by omega) dX1_obeys_7 ?_
  refine v_topi (nI a) (congrArg nI ha) ?_
  refine v_istore_n [(2, .int (nI a)), (0, .ref (G b)), (1, .int (nI g))] dX1_obeys_8 rfl (by decide) rfl ?_
  refine v_iload_n 2 dX1_obeys_9 rfl rfl ?_
  refine v_bipush (nI 100) dX1_obeys_10 (by decide +kernel) ?_
  refine v_idivN (by omega) (by omega) (by omega) dX1_obeys_12 ?_
  refine v_bipush (nI 10) dX1_obeys_13 (by decide +kernel) ?_
  refine v_iremN (by omega) (by omega) (by omega) dX1_obeys_15 ?_
  refine v_topi (nI z) (congrArg nI hz) ?_
  refine v_istore_n [(3, .int (nI z)), (2, .int (nI a)), (0, .ref (G b)), (1, .int (nI g))] dX1_obeys_16 rfl (by decide) rfl ?_
  refine v_iload_n 3 dX1_obeys_17 rfl rfl ?_
  refine v_bipush (nI 100) dX1_obeys_18 (by decide +kernel) ?_
  refine v_idivN (by omega) (by omega) (by omega) dX1_obeys_20 ?_
  refine v_bipush (nI 100) dX1_obeys_21 (by decide +kernel) ?_
  refine v_iremN (by omega) (by omega) (by omega) dX1_obeys_23 ?_
  refine v_topi (nI hi) (congrArg nI hh) ?_
  refine v_istore [(4, .int (nI hi)), (3, .int (nI z)), (2, .int (nI a)), (0, .ref (G b)), (1, .int (nI g))] dX1_obeys_24 (by decide) rfl ?_
  refine v_iload_n 4 dX1_obeys_26 rfl rfl ?_
  refine v_bipush (nI 100) dX1_obeys_27 (by decide +kernel) ?_
  refine v_iremN (by omega) (by omega) (by omega) dX1_obeys_29 ?_
  refine v_topi (nI lo) (congrArg nI hl) ?_
  refine v_istore [(5, .int (nI lo)), (4, .int (nI hi)), (3, .int (nI z)), (2, .int (nI a)), (0, .ref (G b)), (1, .int (nI g))] dX1_obeys_30 (by decide) rfl ?_
  refine v_iload_n 5 dX1_obeys_32 rfl rfl ?_
  refine v_sipush (nI 10000) dX1_obeys_33 (by decide +kernel) ?_
  refine v_idivN (by omega) (by omega) (by omega) dX1_obeys_36 ?_
  refine v_topi (nI 9) (congrArg nI hm) ?_
  refine v_tableIn (off := 246) 283 dX1_obeys_37 (by decide +kernel) (by decide +kernel) (by decide +kernel) rfl ?_
  refine v_iload_n 3 dX1_obeys_283 rfl rfl ?_
  refine v_if_neN 303 (by omega) dX1_obeys_284 rfl (fun h284 => ?_) (fun h284 => ?_)
  · skip
    refine v_iconst (nI 0) dX1_obeys_303 (by decide +kernel) ?_
    refine v_zret rfl (by decide +kernel) dX1_obeys_304 ⟨congrArg (fun z => some (Value.int z)) ?_, congrArg (φ shp) ?_⟩
    · exact bi_nf (fun z9 => by first | (have := z9.1; omega) | exact absurd z9.2 (Int32.not_le.mpr h296))
    · rfl
  · skip
    refine v_aload_n 4 dX1_obeys_287 rfl rfl ?_
    refine h_geti (g := c) (k := 5) (c 5) hH rfl (hF5 _) inX1_obeys_X1 (by decide) (by decide +kernel) rfl dX1_obeys_288 ?_
    refine v_iload_n 5 dX1_obeys_291 rfl rfl ?_
    refine v_sipush (nI 1000) dX1_obeys_292 (by decide +kernel) ?_
    refine v_iremN (by omega) (by omega) (by omega) dX1_obeys_295 ?_
    refine v_icmp_gt 303 dX1_obeys_296 rfl (fun h296 => ?_) (fun h296 => ?_)
    · skip
      refine v_iconst (nI 0) dX1_obeys_303 (by decide +kernel) ?_
      refine v_zret rfl (by decide +kernel) dX1_obeys_304 ⟨congrArg (fun z => some (Value.int z)) ?_, congrArg (φ shp) ?_⟩
      · exact bi_nf (fun z9 => by first | (have := z9.1; omega) | exact absurd z9.2 (Int32.not_le.mpr h296))
      · rfl
    · skip
      refine v_iconst (nI 1) dX1_obeys_299 (by decide +kernel) ?_
      refine v_goto 304 dX1_obeys_300 rfl ?_
      refine v_zret rfl (by decide +kernel) dX1_obeys_304 ⟨congrArg (fun z => some (Value.int z)) ?_, congrArg (φ shp) ?_⟩
      · exact bi_nt ⟨by omega, Int32.not_lt.mp h296⟩
      · rfl

set_option maxHeartbeats 4000000 in
set_option maxRecDepth 100000 in
/-- obeys 0 -/
theorem c_X1_obeys_0 (lu : Launch) (Dg : va_G) (E : Nat → ClassId) (N : Nat) (G : Nat → Nat) (shp : Nat → (Nat → Int32) → va_E) (σ : Nat → Nat → Int32) {b : Nat} (hH : HallS E G shp N b) (c : Nat → Int32) {T : Nat} (hI : Inv T c) {g a z hi lo : Nat} (hg : g < 100000) (ha : g / 1000 % 10 = a) (hz : g / 100 % 10 = z) (hh : g / 100 % 100 = hi) (hl : g % 100 = lo) (hm : g / 10000 = 0)  : CS lu yX1_obeys wsX1_obeys { frames := 4, cells := 0, slots := 0, locals := 92 } Dg E N G shp (hs σ b c) [.ref (G b), .int (nI g)] (some (.int (bi False))) (hs σ b c) := by
  refine CS.of (cc := cX1_obeys) (maxL := 6) (ret := (some .boolean)) (by decide) rfl (Nat.le_of_ble_eq_true rfl) ?_
  intro p_ e_ s_ m_ args_ below_ meth_ c_
  refine v_eq (pc' := 0) (st' := []) rfl rfl ?_
  refine v_loc [0, 1] [(0, .ref (G b)), (1, .int (nI g))] rfl ?_
  have ha10 : a < 10 := by omega
  have hc10 : z < 10 := by omega
  have hh100 : hi < 100 := by omega
  have hl100 : lo < 100 := by omega
  have hnp30 := hI.np30
  have hnl3 := hI.nl3
  refine v_iload_n 1 dX1_obeys_0 rfl rfl ?_
  refine v_sipush (nI 1000) dX1_obeys_1 (by decide +kernel) ?_
  refine v_idivN (by omega) (by omega) (by omega) dX1_obeys_4 ?_
  refine v_bipush (nI 10) dX1_obeys_5 (by decide +kernel) ?_
  refine v_iremN (by omega) (by omega) (by omega) dX1_obeys_7 ?_
  refine v_topi (nI a) (congrArg nI ha) ?_
  refine v_istore_n [(2, .int (nI a)), (0, .ref (G b)), (1, .int (nI g))] dX1_obeys_8 rfl (by decide) rfl ?_
  refine v_iload_n 2 dX1_obeys_9 rfl rfl ?_
  refine v_bipush (nI 100) dX1_obeys_10 (by decide +kernel) ?_
  refine v_idivN (by omega) (by omega) (by omega) dX1_obeys_12 ?_
  refine v_bipush (nI 10) dX1_obeys_13 (by decide +kernel) ?_
  refine v_iremN (by omega) (by omega) (by omega) dX1_obeys_15 ?_
  refine v_topi (nI z) (congrArg nI hz) ?_
  refine v_istore_n [(3, .int (nI z)), (2, .int (nI a)), (0, .ref (G b)), (1, .int (nI g))] dX1_obeys_16 rfl (by decide) rfl ?_
  refine v_iload_n 3 dX1_obeys_17 rfl rfl ?_
  refine v_bipush (nI 100) dX1_obeys_18 (by decide +kernel) ?_
  refine v_idivN (by omega) (by omega) (by omega) dX1_obeys_20 ?_
  refine v_bipush (nI 100) dX1_obeys_21 (by decide +kernel) ?_
  refine v_iremN (by omega) (by omega) (by omega) dX1_obeys_23 ?_
  refine v_topi (nI hi) (congrArg nI hh) ?_
  refine v_istore [(4, .int (nI hi)), (3, .int (nI z)), (2, .int (nI a)), (0, .ref (G b)), (1, .int (nI g))] dX1_obeys_24 (by decide) rfl ?_
  refine v_iload_n 4 dX1_obeys_26 rfl rfl ?_
  refine v_bipush (nI 100) dX1_obeys_27 (by decide +kernel) ?_
  refine v_iremN (by omega) (by omega) (by omega) dX1_obeys_29 ?_
  refine v_topi (nI lo) (congrArg nI hl) ?_
  refine v_istore [(5, .int (nI lo)), (4, .int (nI hi)), (3, .int (nI z)), (2, .int (nI a)), (0, .ref (G b)), (1, .int (nI g))] dX1_obeys_30 (by decide) rfl ?_
  refine v_iload_n 5 dX1_obeys_32 rfl rfl ?_
  refine v_sipush (nI 10000) dX1_obeys_33 (by decide +kernel) ?_
  refine v_idivN (by omega) (by omega) (by omega) dX1_obeys_36 ?_
  refine v_topi (nI 0) (congrArg nI hm) ?_
  refine v_tableOut 305 dX1_obeys_37 (by decide +kernel) rfl ?_
  refine v_iconst (nI 0) dX1_obeys_305 (by decide +kernel) ?_
  refine v_zret rfl (by decide +kernel) dX1_obeys_306 ⟨congrArg (fun z => some (Value.int z)) ?_, congrArg (φ shp) ?_⟩
  · exact bi_nf id
  · rfl

theorem c_X1_obeys (lu : Launch) (Dg : va_G) (E : Nat → ClassId) (N : Nat) (G : Nat → Nat) (shp : Nat → (Nat → Int32) → va_E) (σ : Nat → Nat → Int32) {b : Nat} (hH : HallS E G shp N b) (c : Nat → Int32) {T : Nat} (hI : Inv T c) {g : Nat} (hg : g < 100000) (hT : T ≤ 999900) : CS lu yX1_obeys wsX1_obeys { frames := 4, cells := 0, slots := 0, locals := 92 } Dg E N G shp (hs σ b c) [.ref (G b), .int (nI g)] (some (.int (bi (succPC c g)))) (hs σ b (succC c g)) := by
  have h10 : g / 10000 < 10 := by omega
  obtain ⟨m, hm⟩ : ∃ m, g / 10000 = m := ⟨_, rfl⟩
  rw [hm] at h10
  have hcs : m = 0 ∨ m = 1 ∨ m = 2 ∨ m = 3 ∨ m = 4 ∨ m = 5 ∨ m = 6 ∨ m = 7 ∨ m = 8 ∨ m = 9 := by omega
  unfold succC succPC succXC
  rcases hcs with rfl | rfl | rfl | rfl | rfl | rfl | rfl | rfl | rfl | rfl <;> rw [hm] <;> simp only [ic_same]
  · exact c_X1_obeys_0 lu Dg E N G shp σ hH c hI hg rfl rfl rfl rfl hm
  · exact c_X1_obeys_1 lu Dg E N G shp σ hH c hI hg rfl rfl rfl rfl hm
  · exact c_X1_obeys_2 lu Dg E N G shp σ hH c hI hg rfl rfl rfl rfl hm
  · exact c_X1_obeys_3 lu Dg E N G shp σ hH c hI hg rfl rfl rfl rfl hm
  · exact c_X1_obeys_4 lu Dg E N G shp σ hH c hI hg rfl rfl rfl rfl hm
  · exact c_X1_obeys_5 lu Dg E N G shp σ hH c hI hg rfl rfl rfl rfl hm
  · exact c_X1_obeys_6 lu Dg E N G shp σ hH c hI hg rfl rfl rfl rfl hm hT
  · exact c_X1_obeys_7 lu Dg E N G shp σ hH c hI hg rfl rfl rfl rfl hm
  · exact c_X1_obeys_8 lu Dg E N G shp σ hH c hI hg rfl rfl rfl rfl hm
  · exact c_X1_obeys_9 lu Dg E N G shp σ hH c hI hg rfl rfl rfl rfl hm
noncomputable def turnC (s : Nat → Int32) (r n : Nat) : Nat → Int32 :=
  ic (r % 16 ≤ 4) (ic (comeFl s (nI (r / 16 % tn (s 1))) (nI (r / 64 % 3)) = 0) (comesC s (r / 16 % tn (s 1)) (r / 64 % 3)) s)
  (ic (r % 16 ≤ 7) (ic (r / 64 % n < tn (s 2) ∧ r / 2048 % n < tn (s 2) ∧ MayX s (r / 64 % n) (r / 2048 % n)) (exchS s (r / 64 % n) (r / 2048 % n)) s)
  (ic (r % 16 ≤ 9) (ic (r / 64 % n < tn (s 2) ∧ MayC s (r / 64 % n)) (jumpsS s (r / 64 % n)) s)
  (ic (r % 16 = 10) (ic (r / 64 % n < tn (s 2) ∧ s (58 + 10 * (r / 64 % n) + 5) = 0) (goesS s (r / 64 % n)) s)
  (ic (r % 16 = 11) (ic (mergeFl s (nI (r / 16 % tn (s 1))) (nI (r / 64 % tn (s 1))) = 0) (mergesF s (r / 16 % tn (s 1)) (r / 64 % tn (s 1))) s) s))))
set_option maxRecDepth 100000 in
theorem inX1_takeTurn_X1 : ∀ w ∈ wsX10, w ∈ wsX1_takeTurn := by decide +kernel
set_option maxHeartbeats 4000000 in
set_option maxRecDepth 100000 in
/-- takeTurn -/
theorem c_X1_takeTurn (lu : Launch) (Dg : va_G) (E : Nat → ClassId) (N : Nat) (G : Nat → Nat) (shp : Nat → (Nat → Int32) → va_E) (σ : Nat → Nat → Int32) {b : Nat} (hH : HallS E G shp N b) (c : Nat → Int32) {T : Nat} (hI : Inv T c) {r : Nat} (hr : r < 2 ^ 31) (hl1 : 1 ≤ tn (c 1))  : CS lu yX1_takeTurn wsX1_takeTurn { frames := 4, cells := 0, slots := 0, locals := 92 } Dg E N G shp (hs σ b c) [.ref (G b), .int (nI r)] none (hs σ b (turnC c r (max 1 (tn (c 2))))) := by
  refine CS.of (cc := cX1_takeTurn) (maxL := 7) (ret := none) (by decide) rfl (Nat.le_of_ble_eq_true rfl) ?_
  intro p_ e_ s_ m_ args_ below_ meth_ c_
  refine v_eq (pc' := 0) (st' := []) rfl rfl ?_
  refine v_loc [0, 1] [(0, .ref (G b)), (1, .int (nI r))] rfl ?_
  have hnp30 := hI.np30
  have hnl3 := hI.nl3
  obtain ⟨n0, hn0⟩ : ∃ n0, max 1 (tn (c 2)) = n0 := ⟨_, rfl⟩
  have hn1 : 1 ≤ n0 ∧ n0 ≤ 30 := by omega
  have hll : r / 16 % tn (c 1) < tn (c 1) := Nat.mod_lt _ (by omega)
  have hpp : r / 64 % n0 < n0 := Nat.mod_lt _ (by omega)
  have hqq : r / 2048 % n0 < n0 := Nat.mod_lt _ (by omega)
  have hoo : r / 64 % tn (c 1) < tn (c 1) := Nat.mod_lt _ (by omega)
  refine v_iconst (nI 1) dX1_takeTurn_0 (by decide +kernel) ?_
  refine v_aload_n 0 dX1_takeTurn_1 rfl rfl ?_
  refine h_geti (g := c) (k := 0) (c 1) hH rfl (hF0 _) inX1_takeTurn_X1 (by decide) (by decide +kernel) rfl dX1_takeTurn_2 ?_
  refine v_topi (nI (tn (c 1))) (hI.nl) ?_
  refine v_mmax (by decide +kernel) (by decide +kernel) (by decide +kernel) (by decide +kernel) (Nat.le_of_ble_eq_true rfl) (Nat.le_of_ble_eq_true rfl) ⟨Nat.le_of_ble_eq_true rfl, Nat.le_of_ble_eq_true rfl⟩ dX1_takeTurn_5 ?_
  refine v_topi (nI (max 1 (tn (c 1)))) (max_nI (by omega) (by omega)) ?_
  refine v_topi (nI (tn (c 1))) (congrArg nI (by omega)) ?_
  refine v_istore_n [(2, .int (nI (tn (c 1)))), (0, .ref (G b)), (1, .int (nI r))] dX1_takeTurn_8 rfl (by decide) rfl ?_
  refine v_iconst (nI 1) dX1_takeTurn_9 (by decide +kernel) ?_
  refine v_aload_n 1 dX1_takeTurn_10 rfl rfl ?_
  refine h_geti (g := c) (k := 1) (c 2) hH rfl (hF1 _) inX1_takeTurn_X1 (by decide) (by decide +kernel) rfl dX1_takeTurn_11 ?_
  refine v_topi (nI (tn (c 2))) (hI.np) ?_
  refine v_mmax (by decide +kernel) (by decide +kernel) (by decide +kernel) (by decide +kernel) (Nat.le_of_ble_eq_true rfl) (Nat.le_of_ble_eq_true rfl) ⟨Nat.le_of_ble_eq_true rfl, Nat.le_of_ble_eq_true rfl⟩ dX1_takeTurn_14 ?_
  refine v_topi (nI (max 1 (tn (c 2)))) (max_nI (by omega) (by omega)) ?_
  refine v_topi (nI n0) (congrArg nI hn0) ?_
  refine v_istore_n [(3, .int (nI n0)), (2, .int (nI (tn (c 1)))), (0, .ref (G b)), (1, .int (nI r))] dX1_takeTurn_17 rfl (by decide) rfl ?_
  refine v_iload_n 3 dX1_takeTurn_18 rfl rfl ?_
  refine v_bipush (nI 16) dX1_takeTurn_19 (by decide +kernel) ?_
  refine v_idivN (by omega) (by omega) (by omega) dX1_takeTurn_21 ?_
  refine v_iload_n 1 dX1_takeTurn_22 rfl rfl ?_
  refine v_iremN (by omega) (by omega) (by omega) dX1_takeTurn_23 ?_
  obtain ⟨la, hela⟩ : ∃ la, r / 16 % tn (c 1) = la := ⟨_, rfl⟩
  refine v_topi (nI la) (congrArg nI hela) ?_
  rw [hela] at hll
  refine v_istore [(4, .int (nI la)), (3, .int (nI n0)), (2, .int (nI (tn (c 1)))), (0, .ref (G b)), (1, .int (nI r))] dX1_takeTurn_24 (by decide) rfl ?_
  refine v_iload_n 4 dX1_takeTurn_26 rfl rfl ?_
  refine v_bipush (nI 64) dX1_takeTurn_27 (by decide +kernel) ?_
  refine v_idivN (by omega) (by omega) (by omega) dX1_takeTurn_29 ?_
  refine v_iload_n 1 dX1_takeTurn_30 rfl rfl ?_
  refine v_iremN (by omega) (by omega) (by omega) dX1_takeTurn_31 ?_
  obtain ⟨pa, hepa⟩ : ∃ pa, r / 64 % n0 = pa := ⟨_, rfl⟩
  refine v_topi (nI pa) (congrArg nI hepa) ?_
  rw [hepa] at hpp
  refine v_istore [(5, .int (nI pa)), (4, .int (nI la)), (3, .int (nI n0)), (2, .int (nI (tn (c 1)))), (0, .ref (G b)), (1, .int (nI r))] dX1_takeTurn_32 (by decide) rfl ?_
  refine v_iload_n 5 dX1_takeTurn_34 rfl rfl ?_
  refine v_bipush (nI 16) dX1_takeTurn_35 (by decide +kernel) ?_
  refine v_iremN (by omega) (by omega) (by omega) dX1_takeTurn_37 ?_
  obtain ⟨ya, heya⟩ : ∃ ya, r % 16 = ya := ⟨_, rfl⟩
  refine v_topi (nI ya) (congrArg nI heya) ?_
  refine v_istore [(6, .int (nI ya)), (5, .int (nI pa)), (4, .int (nI la)), (3, .int (nI n0)), (2, .int (nI (tn (c 1)))), (0, .ref (G b)), (1, .int (nI r))] dX1_takeTurn_38 (by decide) rfl ?_
  refine v_iload 0 dX1_takeTurn_40 rfl ?_
  refine v_iconst (nI 4) dX1_takeTurn_42 (by decide +kernel) ?_
  refine v_icmp_gtN 62 (by omega) (by omega) dX1_takeTurn_43 rfl (fun h43 => ?_) (fun h43 => ?_)
  · skip
    refine v_iload 0 dX1_takeTurn_62 rfl ?_
    refine v_bipush (nI 7) dX1_takeTurn_64 (by decide +kernel) ?_
    refine v_icmp_gtN 86 (by omega) (by omega) dX1_takeTurn_66 rfl (fun h66 => ?_) (fun h66 => ?_)
    · skip
      refine v_iload 0 dX1_takeTurn_86 rfl ?_
      refine v_bipush (nI 9) dX1_takeTurn_88 (by decide +kernel) ?_
      refine v_icmp_gtN 103 (by omega) (by omega) dX1_takeTurn_90 rfl (fun h90 => ?_) (fun h90 => ?_)
      · skip
        refine v_iload 0 dX1_takeTurn_103 rfl ?_
        refine v_bipush (nI 10) dX1_takeTurn_105 (by decide +kernel) ?_
        refine v_icmp_neN 120 (by omega) (by omega) dX1_takeTurn_107 rfl (fun h107 => ?_) (fun h107 => ?_)
        · skip
          refine v_iload 0 dX1_takeTurn_120 rfl ?_
          refine v_bipush (nI 11) dX1_takeTurn_122 (by decide +kernel) ?_
          refine v_icmp_neN 140 (by omega) (by omega) dX1_takeTurn_124 rfl (fun h124 => ?_) (fun h124 => ?_)
          · skip
            refine v_vret rfl dX1_takeTurn_140 ⟨rfl, congrArg (φ shp) ?_⟩
            · rw [hn0]; unfold turnC; first | rw [ic_t (P := r % 16 ≤ 4) (by omega), hela, heka] | rw [ic_f (P := r % 16 ≤ 4) (by omega), ic_t (P := r % 16 ≤ 7) (by omega), hepa, heqa] | rw [ic_f (P := r % 16 ≤ 4) (by omega), ic_f (P := r % 16 ≤ 7) (by omega), ic_t (P := r % 16 ≤ 9) (by omega), hepa] | rw [ic_f (P := r % 16 ≤ 4) (by omega), ic_f (P := r % 16 ≤ 7) (by omega), ic_f (P := r % 16 ≤ 9) (by omega), ic_t (P := r % 16 = 10) (by omega), hepa] | rw [ic_f (P := r % 16 ≤ 4) (by omega), ic_f (P := r % 16 ≤ 7) (by omega), ic_f (P := r % 16 ≤ 9) (by omega), ic_f (P := r % 16 = 10) (by omega), ic_t (P := r % 16 = 11) (by omega), hela, heoa] | rw [ic_f (P := r % 16 ≤ 4) (by omega), ic_f (P := r % 16 ≤ 7) (by omega), ic_f (P := r % 16 ≤ 9) (by omega), ic_f (P := r % 16 = 10) (by omega), ic_f (P := r % 16 = 11) (by omega)]
          · skip
            refine v_aload_n 5 dX1_takeTurn_127 rfl rfl ?_
            refine v_iload 2 dX1_takeTurn_128 rfl ?_
            refine v_iload_n 6 dX1_takeTurn_130 rfl rfl ?_
            refine v_bipush (nI 64) dX1_takeTurn_131 (by decide +kernel) ?_
            refine v_idivN (by omega) (by omega) (by omega) dX1_takeTurn_133 ?_
            refine v_iload_n 4 dX1_takeTurn_134 rfl rfl ?_
            refine v_iremN (by omega) (by omega) (by omega) dX1_takeTurn_135 ?_
            obtain ⟨oa, heoa⟩ : ∃ oa, r / 64 % tn (c 1) = oa := ⟨_, rfl⟩
            refine v_topi (nI oa) (congrArg nI heoa) ?_
            rw [heoa] at hoo
            refine u_callVv [.int (nI la), .int (nI oa)] [] 2 (c_X1_unite lu Dg E N G shp σ hH c hI (y := la) (o := oa) (by omega) (by omega)) (ci := 1) (C := RX1) (T := TX1) (NF := 11) hH.n hH.s rfl gX1_takeTurn_X1_unite rfl rfl rfl (by decide +kernel) rfl ⟨Nat.le_of_ble_eq_true rfl, Nat.le_of_ble_eq_true rfl⟩ ⟨Nat.le_of_ble_eq_true rfl, Nat.le_of_ble_eq_true rfl⟩ (Nat.le_of_ble_eq_true rfl) rfl dX1_takeTurn_136 ?_
            refine v_pop dX1_takeTurn_139 rfl ?_
            refine v_vret rfl dX1_takeTurn_140 ⟨rfl, congrArg (φ shp) ?_⟩
            · rw [hn0]; unfold turnC; first | rw [ic_t (P := r % 16 ≤ 4) (by omega), hela, heka] | rw [ic_f (P := r % 16 ≤ 4) (by omega), ic_t (P := r % 16 ≤ 7) (by omega), hepa, heqa] | rw [ic_f (P := r % 16 ≤ 4) (by omega), ic_f (P := r % 16 ≤ 7) (by omega), ic_t (P := r % 16 ≤ 9) (by omega), hepa] | rw [ic_f (P := r % 16 ≤ 4) (by omega), ic_f (P := r % 16 ≤ 7) (by omega), ic_f (P := r % 16 ≤ 9) (by omega), ic_t (P := r % 16 = 10) (by omega), hepa] | rw [ic_f (P := r % 16 ≤ 4) (by omega), ic_f (P := r % 16 ≤ 7) (by omega), ic_f (P := r % 16 ≤ 9) (by omega), ic_f (P := r % 16 = 10) (by omega), ic_t (P := r % 16 = 11) (by omega), hela, heoa] | rw [ic_f (P := r % 16 ≤ 4) (by omega), ic_f (P := r % 16 ≤ 7) (by omega), ic_f (P := r % 16 ≤ 9) (by omega), ic_f (P := r % 16 = 10) (by omega), ic_f (P := r % 16 = 11) (by omega)]
        · skip
          refine v_aload_n 5 dX1_takeTurn_110 rfl rfl ?_
          refine v_iload 1 dX1_takeTurn_111 rfl ?_
          refine u_callVv [.int (nI pa)] [] 1 (c_X1_leave lu Dg E N G shp σ hH c hI (p := pa) (by omega)) (ci := 1) (C := RX1) (T := TX1) (NF := 11) hH.n hH.s rfl gX1_takeTurn_X1_leave rfl rfl rfl (by decide +kernel) rfl ⟨Nat.le_of_ble_eq_true rfl, Nat.le_of_ble_eq_true rfl⟩ ⟨Nat.le_of_ble_eq_true rfl, Nat.le_of_ble_eq_true rfl⟩ (Nat.le_of_ble_eq_true rfl) rfl dX1_takeTurn_113 ?_
          refine v_pop dX1_takeTurn_116 rfl ?_
          refine v_goto 140 dX1_takeTurn_117 rfl ?_
          refine v_vret rfl dX1_takeTurn_140 ⟨rfl, congrArg (φ shp) ?_⟩
          · rw [hn0]; unfold turnC; first | rw [ic_t (P := r % 16 ≤ 4) (by omega), hela, heka] | rw [ic_f (P := r % 16 ≤ 4) (by omega), ic_t (P := r % 16 ≤ 7) (by omega), hepa, heqa] | rw [ic_f (P := r % 16 ≤ 4) (by omega), ic_f (P := r % 16 ≤ 7) (by omega), ic_t (P := r % 16 ≤ 9) (by omega), hepa] | rw [ic_f (P := r % 16 ≤ 4) (by omega), ic_f (P := r % 16 ≤ 7) (by omega), ic_f (P := r % 16 ≤ 9) (by omega), ic_t (P := r % 16 = 10) (by omega), hepa] | rw [ic_f (P := r % 16 ≤ 4) (by omega), ic_f (P := r % 16 ≤ 7) (by omega), ic_f (P := r % 16 ≤ 9) (by omega), ic_f (P := r % 16 = 10) (by omega), ic_t (P := r % 16 = 11) (by omega), hela, heoa] | rw [ic_f (P := r % 16 ≤ 4) (by omega), ic_f (P := r % 16 ≤ 7) (by omega), ic_f (P := r % 16 ≤ 9) (by omega), ic_f (P := r % 16 = 10) (by omega), ic_f (P := r % 16 = 11) (by omega)]
      · skip
        refine v_aload_n 5 dX1_takeTurn_93 rfl rfl ?_
        refine v_iload 1 dX1_takeTurn_94 rfl ?_
        refine u_callVv [.int (nI pa)] [] 1 (c_X1_pass lu Dg E N G shp σ hH c hI (p := pa) (by omega)) (ci := 1) (C := RX1) (T := TX1) (NF := 11) hH.n hH.s rfl gX1_takeTurn_X1_pass rfl rfl rfl (by decide +kernel) rfl ⟨Nat.le_of_ble_eq_true rfl, Nat.le_of_ble_eq_true rfl⟩ ⟨Nat.le_of_ble_eq_true rfl, Nat.le_of_ble_eq_true rfl⟩ (Nat.le_of_ble_eq_true rfl) rfl dX1_takeTurn_96 ?_
        refine v_pop dX1_takeTurn_99 rfl ?_
        refine v_goto 140 dX1_takeTurn_100 rfl ?_
        refine v_vret rfl dX1_takeTurn_140 ⟨rfl, congrArg (φ shp) ?_⟩
        · rw [hn0]; unfold turnC; first | rw [ic_t (P := r % 16 ≤ 4) (by omega), hela, heka] | rw [ic_f (P := r % 16 ≤ 4) (by omega), ic_t (P := r % 16 ≤ 7) (by omega), hepa, heqa] | rw [ic_f (P := r % 16 ≤ 4) (by omega), ic_f (P := r % 16 ≤ 7) (by omega), ic_t (P := r % 16 ≤ 9) (by omega), hepa] | rw [ic_f (P := r % 16 ≤ 4) (by omega), ic_f (P := r % 16 ≤ 7) (by omega), ic_f (P := r % 16 ≤ 9) (by omega), ic_t (P := r % 16 = 10) (by omega), hepa] | rw [ic_f (P := r % 16 ≤ 4) (by omega), ic_f (P := r % 16 ≤ 7) (by omega), ic_f (P := r % 16 ≤ 9) (by omega), ic_f (P := r % 16 = 10) (by omega), ic_t (P := r % 16 = 11) (by omega), hela, heoa] | rw [ic_f (P := r % 16 ≤ 4) (by omega), ic_f (P := r % 16 ≤ 7) (by omega), ic_f (P := r % 16 ≤ 9) (by omega), ic_f (P := r % 16 = 10) (by omega), ic_f (P := r % 16 = 11) (by omega)]
    · skip
      refine v_aload_n 5 dX1_takeTurn_69 rfl rfl ?_
      refine v_iload 1 dX1_takeTurn_70 rfl ?_
      refine v_iload_n 6 dX1_takeTurn_72 rfl rfl ?_
      refine v_sipush (nI 2048) dX1_takeTurn_73 (by decide +kernel) ?_
      refine v_idivN (by omega) (by omega) (by omega) dX1_takeTurn_76 ?_
      refine v_iload_n 3 dX1_takeTurn_77 rfl rfl ?_
      refine v_iremN (by omega) (by omega) (by omega) dX1_takeTurn_78 ?_
      obtain ⟨qa, heqa⟩ : ∃ qa, r / 2048 % n0 = qa := ⟨_, rfl⟩
      refine v_topi (nI qa) (congrArg nI heqa) ?_
      rw [heqa] at hqq
      refine u_callVv [.int (nI pa), .int (nI qa)] [] 2 (c_X1_trade lu Dg E N G shp σ hH c hI (p := pa) (q := qa) (by omega) (by omega)) (ci := 1) (C := RX1) (T := TX1) (NF := 11) hH.n hH.s rfl gX1_takeTurn_X1_trade rfl rfl rfl (by decide +kernel) rfl ⟨Nat.le_of_ble_eq_true rfl, Nat.le_of_ble_eq_true rfl⟩ ⟨Nat.le_of_ble_eq_true rfl, Nat.le_of_ble_eq_true rfl⟩ (Nat.le_of_ble_eq_true rfl) rfl dX1_takeTurn_79 ?_
      refine v_pop dX1_takeTurn_82 rfl ?_
      refine v_goto 140 dX1_takeTurn_83 rfl ?_
      refine v_vret rfl dX1_takeTurn_140 ⟨rfl, congrArg (φ shp) ?_⟩
      · rw [hn0]; unfold turnC; first | rw [ic_t (P := r % 16 ≤ 4) (by omega), hela, heka] | rw [ic_f (P := r % 16 ≤ 4) (by omega), ic_t (P := r % 16 ≤ 7) (by omega), hepa, heqa] | rw [ic_f (P := r % 16 ≤ 4) (by omega), ic_f (P := r % 16 ≤ 7) (by omega), ic_t (P := r % 16 ≤ 9) (by omega), hepa] | rw [ic_f (P := r % 16 ≤ 4) (by omega), ic_f (P := r % 16 ≤ 7) (by omega), ic_f (P := r % 16 ≤ 9) (by omega), ic_t (P := r % 16 = 10) (by omega), hepa] | rw [ic_f (P := r % 16 ≤ 4) (by omega), ic_f (P := r % 16 ≤ 7) (by omega), ic_f (P := r % 16 ≤ 9) (by omega), ic_f (P := r % 16 = 10) (by omega), ic_t (P := r % 16 = 11) (by omega), hela, heoa] | rw [ic_f (P := r % 16 ≤ 4) (by omega), ic_f (P := r % 16 ≤ 7) (by omega), ic_f (P := r % 16 ≤ 9) (by omega), ic_f (P := r % 16 = 10) (by omega), ic_f (P := r % 16 = 11) (by omega)]
  · skip
    refine v_aload_n 5 dX1_takeTurn_46 rfl rfl ?_
    refine v_iload 2 dX1_takeTurn_47 rfl ?_
    refine v_iload_n 6 dX1_takeTurn_49 rfl rfl ?_
    refine v_bipush (nI 64) dX1_takeTurn_50 (by decide +kernel) ?_
    refine v_idivN (by omega) (by omega) (by omega) dX1_takeTurn_52 ?_
    refine v_iconst (nI 3) dX1_takeTurn_53 (by decide +kernel) ?_
    refine v_iremN (by omega) (by omega) (by omega) dX1_takeTurn_54 ?_
    obtain ⟨ka, heka⟩ : ∃ ka, r / 64 % 3 = ka := ⟨_, rfl⟩
    refine v_topi (nI ka) (congrArg nI heka) ?_
    refine u_callVv [.int (nI la), .int (nI ka)] [] 2 (c_X1_enter lu Dg E N G shp σ hH c hI (y := la) (k0 := ka) (by omega) (by omega)) (ci := 1) (C := RX1) (T := TX1) (NF := 11) hH.n hH.s rfl gX1_takeTurn_X1_enter rfl rfl rfl (by decide +kernel) rfl ⟨Nat.le_of_ble_eq_true rfl, Nat.le_of_ble_eq_true rfl⟩ ⟨Nat.le_of_ble_eq_true rfl, Nat.le_of_ble_eq_true rfl⟩ (Nat.le_of_ble_eq_true rfl) rfl dX1_takeTurn_55 ?_
    refine v_pop dX1_takeTurn_58 rfl ?_
    refine v_goto 140 dX1_takeTurn_59 rfl ?_
    refine v_vret rfl dX1_takeTurn_140 ⟨rfl, congrArg (φ shp) ?_⟩
    · rw [hn0]; unfold turnC; first | rw [ic_t (P := r % 16 ≤ 4) (by omega), hela, heka] | rw [ic_f (P := r % 16 ≤ 4) (by omega), ic_t (P := r % 16 ≤ 7) (by omega), hepa, heqa] | rw [ic_f (P := r % 16 ≤ 4) (by omega), ic_f (P := r % 16 ≤ 7) (by omega), ic_t (P := r % 16 ≤ 9) (by omega), hepa] | rw [ic_f (P := r % 16 ≤ 4) (by omega), ic_f (P := r % 16 ≤ 7) (by omega), ic_f (P := r % 16 ≤ 9) (by omega), ic_t (P := r % 16 = 10) (by omega), hepa] | rw [ic_f (P := r % 16 ≤ 4) (by omega), ic_f (P := r % 16 ≤ 7) (by omega), ic_f (P := r % 16 ≤ 9) (by omega), ic_f (P := r % 16 = 10) (by omega), ic_t (P := r % 16 = 11) (by omega), hela, heoa] | rw [ic_f (P := r % 16 ≤ 4) (by omega), ic_f (P := r % 16 ≤ 7) (by omega), ic_f (P := r % 16 ≤ 9) (by omega), ic_f (P := r % 16 = 10) (by omega), ic_f (P := r % 16 = 11) (by omega)]
