def payBy (c : Nat → Int32) (q : Nat) (x : Int32) : Nat → Int32 :=
  let s1 := upd c (58 + 10 * q + 3) (c (58 + 10 * q + 3) + x)
  let s2 := upd s1 (58 + 10 * q + 4) (s1 (58 + 10 * q + 4) + x)
  upd s2 5 (s2 5 + x)
theorem payBy_U (c : Nat → Int32) (q : Nat) : payBy c q (c 7) = payU c q := by
  simp only [payBy, payU]
  have e1 : upd c (58 + 10 * q + 3) (c (58 + 10 * q + 3) + c 7) 7 = c 7 := by rw [upd_ap, if_neg (by omega)]
  rw [e1]
  have e2 : upd (upd c (58 + 10 * q + 3) (c (58 + 10 * q + 3) + c 7)) (58 + 10 * q + 4) (upd c (58 + 10 * q + 3) (c (58 + 10 * q + 3) + c 7) (58 + 10 * q + 4) + c 7) 7 = c 7 := by rw [upd_ap, if_neg (by omega), e1]
  rw [e2]
noncomputable def payFor (c : Nat → Int32) (p q : Nat) : Nat → Int32 :=
  let u1 := upd c (58 + 10 * q + 7) (c (58 + 10 * q + 7) + nI 1)
  let u2 := upd u1 (58 + 10 * p + 3) (u1 (58 + 10 * p + 3) - u1 8)
  ic (u1 (58 + 10 * p) = nI 1) (payBy u1 q (u1 8)) (upd u2 (58 + 10 * q + 3) (u2 (58 + 10 * q + 3) + u2 8))
set_option maxRecDepth 100000 in
theorem inX1_payByHouse_X1 : ∀ w ∈ wsX10, w ∈ wsX1_payByHouse := by decide +kernel
set_option maxRecDepth 100000 in
theorem inX1_payByHouse_X4 : ∀ w ∈ wsX40, w ∈ wsX1_payByHouse := by decide +kernel
set_option maxHeartbeats 4000000 in
set_option maxRecDepth 100000 in
/-- Hall.payByHouse -/
theorem c_X1_payByHouse (lu : Launch) (Dg : va_G) (E : Nat → ClassId) (N : Nat) (G : Nat → Nat) (shp : Nat → (Nat → Int32) → va_E) (σ : Nat → Nat → Int32) {b : Nat} (hH : HallS E G shp N b) (c : Nat → Int32) {q : Nat} (hq : q < 30) (x : Int32)  : CS lu yX1_payByHouse wsX1_payByHouse { frames := 0, cells := 0, slots := 0, locals := 0 } Dg E N G shp (hs σ b c) [.ref (G b), .ref (G (b + 13 + q)), .int x] none (hs σ b (payBy c q x)) := by
  refine CS.of (cc := cX1_payByHouse) (maxL := 3) (ret := none) (by decide) rfl (Nat.le_of_ble_eq_true rfl) ?_
  intro p_ e_ s_ m_ args_ below_ meth_ c_
  refine v_eq (pc' := 0) (st' := []) rfl rfl ?_
  refine v_loc [0, 1, 2] [(0, .ref (G b)), (1, .ref (G (b + 13 + q))), (2, .int x)] rfl ?_
  refine v_aload_n 1 dX1_payByHouse_0 rfl rfl ?_
  refine v_dup dX1_payByHouse_1 rfl ?_
  refine p_geti (g := c) (k := 4) (q := q) (by omega) (c (58 + 10 * q + 3)) hH rfl (pF4 _ _) inX1_payByHouse_X4 (by decide) (by decide +kernel) rfl dX1_payByHouse_2 ?_
  refine v_iload_n 2 dX1_payByHouse_5 rfl rfl ?_
  refine v_iadd dX1_payByHouse_6 ?_
  refine p_puti (k := 4) (q := q) (by omega) hH rfl (hst_p4 (by omega) _) inX1_payByHouse_X4 (by decide) (by decide +kernel) rfl rfl (by decide +kernel) dX1_payByHouse_7 ?_
  generalize hg1 : upd c (58 + 10 * q + 3) ((c (58 + 10 * q + 3)) + x) = g1
  refine v_aload_n 1 dX1_payByHouse_10 rfl rfl ?_
  refine v_dup dX1_payByHouse_11 rfl ?_
  refine p_geti (g := g1) (k := 5) (q := q) (by omega) (g1 (58 + 10 * q + 4)) hH rfl (pF5 _ _) inX1_payByHouse_X4 (by decide) (by decide +kernel) rfl dX1_payByHouse_12 ?_
  refine v_iload_n 2 dX1_payByHouse_15 rfl rfl ?_
  refine v_iadd dX1_payByHouse_16 ?_
  refine p_puti (k := 5) (q := q) (by omega) hH rfl (hst_p5 (by omega) _) inX1_payByHouse_X4 (by decide) (by decide +kernel) rfl rfl (by decide +kernel) dX1_payByHouse_17 ?_
  generalize hg2 : upd g1 (58 + 10 * q + 4) ((g1 (58 + 10 * q + 4)) + x) = g2
  refine v_aload_n 0 dX1_payByHouse_20 rfl rfl ?_
  refine v_dup dX1_payByHouse_21 rfl ?_
  refine h_geti (g := g2) (k := 5) (g2 5) hH rfl (hF5 _) inX1_payByHouse_X1 (by decide) (by decide +kernel) rfl dX1_payByHouse_22 ?_
  refine v_iload_n 2 dX1_payByHouse_25 rfl rfl ?_
  refine v_iadd dX1_payByHouse_26 ?_
  refine h_puti (k := 5) hH rfl (hst_h5 _) inX1_payByHouse_X1 (by decide) (by decide +kernel) rfl rfl (by decide +kernel) dX1_payByHouse_27 ?_
  generalize hg3 : upd g2 5 ((g2 5) + x) = g3
  refine v_vret rfl dX1_payByHouse_30 ⟨rfl, congrArg (φ shp) ?_⟩
  · subst hg1; subst hg2; subst hg3; rfl
set_option maxRecDepth 100000 in
theorem inX1_payForPassing_X1 : ∀ w ∈ wsX10, w ∈ wsX1_payForPassing := by decide +kernel
set_option maxRecDepth 100000 in
theorem inX1_payForPassing_X4 : ∀ w ∈ wsX40, w ∈ wsX1_payForPassing := by decide +kernel
set_option maxHeartbeats 4000000 in
set_option maxRecDepth 100000 in
/-- Hall.payForPassing -/
theorem c_X1_payForPassing (lu : Launch) (Dg : va_G) (E : Nat → ClassId) (N : Nat) (G : Nat → Nat) (shp : Nat → (Nat → Int32) → va_E) (σ : Nat → Nat → Int32) {b : Nat} (hH : HallS E G shp N b) (c : Nat → Int32) {p q : Nat} (hp : p < 30) (hq : q < 30)  : CS lu yX1_payForPassing wsX1_payForPassing { frames := 1, cells := 0, slots := 0, locals := 22 } Dg E N G shp (hs σ b c) [.ref (G b), .ref (G (b + 13 + p)), .ref (G (b + 13 + q))] none (hs σ b (payFor c p q)) := by
  refine CS.of (cc := cX1_payForPassing) (maxL := 3) (ret := none) (by decide) rfl (Nat.le_of_ble_eq_true rfl) ?_
  intro p_ e_ s_ m_ args_ below_ meth_ c_
  refine v_eq (pc' := 0) (st' := []) rfl rfl ?_
  refine v_loc [0, 1, 2] [(0, .ref (G b)), (1, .ref (G (b + 13 + p))), (2, .ref (G (b + 13 + q)))] rfl ?_
  refine v_aload_n 2 dX1_payForPassing_0 rfl rfl ?_
  refine v_dup dX1_payForPassing_1 rfl ?_
  refine p_geti (g := c) (k := 7) (q := q) (by omega) (c (58 + 10 * q + 7)) hH rfl (pF7 _ _) inX1_payForPassing_X4 (by decide) (by decide +kernel) rfl dX1_payForPassing_2 ?_
  refine v_iconst (nI 1) dX1_payForPassing_5 (by decide +kernel) ?_
  refine v_iadd dX1_payForPassing_6 ?_
  refine p_puti (k := 7) (q := q) (by omega) hH rfl (hst_p7 (by omega) _) inX1_payForPassing_X4 (by decide) (by decide +kernel) rfl rfl (by decide +kernel) dX1_payForPassing_7 ?_
  generalize hg1 : upd c (58 + 10 * q + 7) ((c (58 + 10 * q + 7)) + (nI 1)) = g1
  refine v_aload_n 1 dX1_payForPassing_10 rfl rfl ?_
  refine p_geti (g := g1) (k := 0) (q := p) (by omega) (g1 (58 + 10 * p)) hH rfl (pF0 _ _) inX1_payForPassing_X4 (by decide) (by decide +kernel) rfl dX1_payForPassing_11 ?_
  refine v_iconst (nI 1) dX1_payForPassing_14 (by decide +kernel) ?_
  refine v_icmp_ne 32 dX1_payForPassing_15 rfl (fun h15 => ?_) (fun h15 => ?_)
  · skip
    refine v_aload_n 1 dX1_payForPassing_32 rfl rfl ?_
    refine v_dup dX1_payForPassing_33 rfl ?_
    refine p_geti (g := g1) (k := 4) (q := p) (by omega) (g1 (58 + 10 * p + 3)) hH rfl (pF4 _ _) inX1_payForPassing_X4 (by decide) (by decide +kernel) rfl dX1_payForPassing_34 ?_
    refine v_aload_n 0 dX1_payForPassing_37 rfl rfl ?_
    refine u_getr (k := 6) (C := RX1) (T := TX1) (NF := 11) hH.n hH.s rfl rfl inX1_payForPassing_X1 (by decide) (by decide +kernel) rfl dX1_payForPassing_38 ?_
    refine v_iconst (nI 2) dX1_payForPassing_41 (by decide +kernel) ?_
    refine s_ld 2 hH (rfl) (by omega) dX1_payForPassing_42 ?_
    refine v_isub dX1_payForPassing_43 ?_
    refine p_puti (k := 4) (q := p) (by omega) hH rfl (hst_p4 (by omega) _) inX1_payForPassing_X4 (by decide) (by decide +kernel) rfl rfl (by decide +kernel) dX1_payForPassing_44 ?_
    generalize hg2 : upd g1 (58 + 10 * p + 3) ((g1 (58 + 10 * p + 3)) - (g1 (8))) = g2
    refine v_aload_n 2 dX1_payForPassing_47 rfl rfl ?_
    refine v_dup dX1_payForPassing_48 rfl ?_
    refine p_geti (g := g2) (k := 4) (q := q) (by omega) (g2 (58 + 10 * q + 3)) hH rfl (pF4 _ _) inX1_payForPassing_X4 (by decide) (by decide +kernel) rfl dX1_payForPassing_49 ?_
    refine v_aload_n 0 dX1_payForPassing_52 rfl rfl ?_
    refine u_getr (k := 6) (C := RX1) (T := TX1) (NF := 11) hH.n hH.s rfl rfl inX1_payForPassing_X1 (by decide) (by decide +kernel) rfl dX1_payForPassing_53 ?_
    refine v_iconst (nI 2) dX1_payForPassing_56 (by decide +kernel) ?_
    refine s_ld 2 hH (rfl) (by omega) dX1_payForPassing_57 ?_
    refine v_iadd dX1_payForPassing_58 ?_
    refine p_puti (k := 4) (q := q) (by omega) hH rfl (hst_p4 (by omega) _) inX1_payForPassing_X4 (by decide) (by decide +kernel) rfl rfl (by decide +kernel) dX1_payForPassing_59 ?_
    generalize hg3 : upd g2 (58 + 10 * q + 3) ((g2 (58 + 10 * q + 3)) + (g2 (8))) = g3
    refine v_vret rfl dX1_payForPassing_62 ⟨rfl, congrArg (φ shp) ?_⟩
    · subst hg1; subst hg2; subst hg3; simp only [payFor]; rw [ic_f h15]
  · skip
    refine v_aload_n 0 dX1_payForPassing_18 rfl rfl ?_
    refine v_aload_n 2 dX1_payForPassing_19 rfl rfl ?_
    refine v_aload_n 0 dX1_payForPassing_20 rfl rfl ?_
    refine u_getr (k := 6) (C := RX1) (T := TX1) (NF := 11) hH.n hH.s rfl rfl inX1_payForPassing_X1 (by decide) (by decide +kernel) rfl dX1_payForPassing_21 ?_
    refine v_iconst (nI 2) dX1_payForPassing_24 (by decide +kernel) ?_
    refine s_ld 2 hH (rfl) (by omega) dX1_payForPassing_25 ?_
    refine u_callVn [.ref (G (b + 13 + q)), .int (g1 (8))] [] 2 (c_X1_payByHouse lu Dg E N G shp σ hH g1 (q := q) (by omega) (g1 (8))) (ci := 1) (C := RX1) (T := TX1) (NF := 11) hH.n hH.s rfl gX1_payForPassing_X1_payByHouse rfl rfl rfl (by decide +kernel) rfl ⟨Nat.le_of_ble_eq_true rfl, Nat.le_of_ble_eq_true rfl⟩ ⟨Nat.le_of_ble_eq_true rfl, Nat.le_of_ble_eq_true rfl⟩ (Nat.le_of_ble_eq_true rfl) rfl dX1_payForPassing_26 ?_
    refine v_goto 62 dX1_payForPassing_29 rfl ?_
    refine v_vret rfl dX1_payForPassing_62 ⟨rfl, congrArg (φ shp) ?_⟩
    · subst hg1; simp only [payFor]; rw [ic_t h15]
set_option maxRecDepth 100000 in
theorem inX1_mayUnite_X3 : ∀ w ∈ wsX30, w ∈ wsX1_mayUnite := by decide +kernel
set_option maxHeartbeats 4000000 in
set_option maxRecDepth 100000 in
/-- Hall.mayUnite -/
theorem c_X1_mayUnite (lu : Launch) (Dg : va_G) (E : Nat → ClassId) (N : Nat) (G : Nat → Nat) (shp : Nat → (Nat → Int32) → va_E) (σ : Nat → Nat → Int32) {b : Nat} (hH : HallS E G shp N b) (c : Nat → Int32) {T : Nat} (hI : Inv T c) {y o : Nat} (hy : y < 2 ^ 31) (ho : o < 2 ^ 31)  : CS lu yX1_mayUnite wsX1_mayUnite { frames := 1, cells := 0, slots := 0, locals := 21 } Dg E N G shp (hs σ b c) [.ref (G b), .int (nI y), .int (nI o)] (some (.int (bi (mergeFl c (nI y) (nI o) = 0)))) (hs σ b c) := by
  refine CS.of (cc := cX1_mayUnite) (maxL := 3) (ret := (some .boolean)) (by decide) rfl (Nat.le_of_ble_eq_true rfl) ?_
  intro p_ e_ s_ m_ args_ below_ meth_ c_
  refine v_eq (pc' := 0) (st' := []) rfl rfl ?_
  refine v_loc [0, 1, 2] [(0, .ref (G b)), (1, .int (nI y)), (2, .int (nI o))] rfl ?_
  refine v_aload_n 0 dX1_mayUnite_0 rfl rfl ?_
  refine v_iload_n 1 dX1_mayUnite_1 rfl rfl ?_
  refine u_callVv [.int (nI y)] [] 1 (c_X1_isLine lu Dg E N G shp σ hH c hI.nl (by have := hI.nl3; omega) (nI y)) (ci := 1) (C := RX1) (T := TX1) (NF := 11) hH.n hH.s rfl gX1_mayUnite_X1_isLine rfl rfl rfl (by decide +kernel) rfl ⟨Nat.le_of_ble_eq_true rfl, Nat.le_of_ble_eq_true rfl⟩ ⟨Nat.le_of_ble_eq_true rfl, Nat.le_of_ble_eq_true rfl⟩ (Nat.le_of_ble_eq_true rfl) rfl dX1_mayUnite_2 ?_
  refine v_if_eqB 47 dX1_mayUnite_5 rfl (fun h5 => ?_) (fun h5 => ?_)
  · skip
    refine v_iconst (nI 0) dX1_mayUnite_47 (by decide +kernel) ?_
    refine v_zret rfl (by decide +kernel) dX1_mayUnite_48 ⟨congrArg (fun z => some (Value.int z)) ?_, congrArg (φ shp) ?_⟩
    · exact bi_nf (fun q9 => by have q8 := mergeFl_0.mp q9; first | exact h5 q8.1.1 | exact h13 q8.1.2 | exact q8.2.1 (congrArg nI h18) | (have q7 := q8.2.2; rw [tn_nI (by omega), tn_nI (by omega)] at q7; omega))
    · rfl
  · skip
    have hyl := (Rg_nI (by omega) (by have := hI.nl3; omega)).mp h5
    have hl3 := Nat.lt_of_lt_of_le hyl hI.nl3
    refine v_aload_n 0 dX1_mayUnite_8 rfl rfl ?_
    refine v_iload_n 2 dX1_mayUnite_9 rfl rfl ?_
    refine u_callVv [.int (nI o)] [] 1 (c_X1_isLine lu Dg E N G shp σ hH c hI.nl (by have := hI.nl3; omega) (nI o)) (ci := 1) (C := RX1) (T := TX1) (NF := 11) hH.n hH.s rfl gX1_mayUnite_X1_isLine rfl rfl rfl (by decide +kernel) rfl ⟨Nat.le_of_ble_eq_true rfl, Nat.le_of_ble_eq_true rfl⟩ ⟨Nat.le_of_ble_eq_true rfl, Nat.le_of_ble_eq_true rfl⟩ (Nat.le_of_ble_eq_true rfl) rfl dX1_mayUnite_10 ?_
    refine v_if_eqB 47 dX1_mayUnite_13 rfl (fun h13 => ?_) (fun h13 => ?_)
    · skip
      refine v_iconst (nI 0) dX1_mayUnite_47 (by decide +kernel) ?_
      refine v_zret rfl (by decide +kernel) dX1_mayUnite_48 ⟨congrArg (fun z => some (Value.int z)) ?_, congrArg (φ shp) ?_⟩
      · exact bi_nf (fun q9 => by have q8 := mergeFl_0.mp q9; first | exact h5 q8.1.1 | exact h13 q8.1.2 | exact q8.2.1 (congrArg nI h18) | (have q7 := q8.2.2; rw [tn_nI (by omega), tn_nI (by omega)] at q7; omega))
      · rfl
    · skip
      have hol := (Rg_nI (by omega) (by have := hI.nl3; omega)).mp h13
      have ho3 := Nat.lt_of_lt_of_le hol hI.nl3
      refine v_iload_n 1 dX1_mayUnite_16 rfl rfl ?_
      refine v_iload_n 2 dX1_mayUnite_17 rfl rfl ?_
      refine v_icmp_eqN 47 (by omega) (by omega) dX1_mayUnite_18 rfl (fun h18 => ?_) (fun h18 => ?_)
      · skip
        refine v_iconst (nI 0) dX1_mayUnite_47 (by decide +kernel) ?_
        refine v_zret rfl (by decide +kernel) dX1_mayUnite_48 ⟨congrArg (fun z => some (Value.int z)) ?_, congrArg (φ shp) ?_⟩
        · exact bi_nf (fun q9 => by have q8 := mergeFl_0.mp q9; first | exact h5 q8.1.1 | exact h13 q8.1.2 | exact q8.2.1 (congrArg nI h18) | (have q7 := q8.2.2; rw [tn_nI (by omega), tn_nI (by omega)] at q7; omega))
        · rfl
      · skip
        refine v_aload_n 0 dX1_mayUnite_21 rfl rfl ?_
        refine v_iload_n 1 dX1_mayUnite_22 rfl rfl ?_
        refine u_callVv [.int (nI y)] [] 1 (c_X1_lineOf lu Dg E N G shp σ hH c (k := y) (by omega)) (ci := 1) (C := RX1) (T := TX1) (NF := 11) hH.n hH.s rfl gX1_mayUnite_X1_lineOf rfl rfl rfl (by decide +kernel) rfl ⟨Nat.le_of_ble_eq_true rfl, Nat.le_of_ble_eq_true rfl⟩ ⟨Nat.le_of_ble_eq_true rfl, Nat.le_of_ble_eq_true rfl⟩ (Nat.le_of_ble_eq_true rfl) rfl dX1_mayUnite_23 ?_
        refine l_geti (g := c) (k := 3) (y := y) (by omega) (c (13 + y)) hH rfl (lF3 _ _) inX1_mayUnite_X3 (by decide) (by decide +kernel) rfl dX1_mayUnite_26 ?_
        refine v_topi (nI (tn (c (13 + y)))) (hI.len hyl) ?_
        refine v_aload_n 0 dX1_mayUnite_29 rfl rfl ?_
        refine v_iload_n 2 dX1_mayUnite_30 rfl rfl ?_
        refine u_callVv [.int (nI o)] [.int (nI (tn (c (13 + y))))] 1 (c_X1_lineOf lu Dg E N G shp σ hH c (k := o) (by omega)) (ci := 1) (C := RX1) (T := TX1) (NF := 11) hH.n hH.s rfl gX1_mayUnite_X1_lineOf rfl rfl rfl (by decide +kernel) rfl ⟨Nat.le_of_ble_eq_true rfl, Nat.le_of_ble_eq_true rfl⟩ ⟨Nat.le_of_ble_eq_true rfl, Nat.le_of_ble_eq_true rfl⟩ (Nat.le_of_ble_eq_true rfl) rfl dX1_mayUnite_31 ?_
        refine l_geti (g := c) (k := 3) (y := o) (by omega) (c (13 + o)) hH rfl (lF3 _ _) inX1_mayUnite_X3 (by decide) (by decide +kernel) rfl dX1_mayUnite_34 ?_
        refine v_topi (nI (tn (c (13 + o)))) (hI.len hol) ?_
        refine v_iaddN dX1_mayUnite_37 ?_
        refine v_bipush (nI 12) dX1_mayUnite_38 (by decide +kernel) ?_
        refine v_icmp_gtN 47 (by have := hI.len12 hyl; have := hI.len12 hol; omega) (by omega) dX1_mayUnite_40 rfl (fun h40 => ?_) (fun h40 => ?_)
        · skip
          refine v_iconst (nI 0) dX1_mayUnite_47 (by decide +kernel) ?_
          refine v_zret rfl (by decide +kernel) dX1_mayUnite_48 ⟨congrArg (fun z => some (Value.int z)) ?_, congrArg (φ shp) ?_⟩
          · exact bi_nf (fun q9 => by have q8 := mergeFl_0.mp q9; first | exact h5 q8.1.1 | exact h13 q8.1.2 | exact q8.2.1 (congrArg nI h18) | (have q7 := q8.2.2; rw [tn_nI (by omega), tn_nI (by omega)] at q7; omega))
          · rfl
        · skip
          refine v_iconst (nI 1) dX1_mayUnite_43 (by decide +kernel) ?_
          refine v_goto 48 dX1_mayUnite_44 rfl ?_
          refine v_zret rfl (by decide +kernel) dX1_mayUnite_48 ⟨congrArg (fun z => some (Value.int z)) ?_, congrArg (φ shp) ?_⟩
          · exact bi_nt (mergeFl_0.mpr ⟨⟨h5, h13⟩, fun e => h18 ((nI_eq (by omega) (by omega)).mp e), by rw [tn_nI (by omega), tn_nI (by omega)]; exact h40⟩)
          · rfl
set_option maxRecDepth 100000 in
theorem inX1_standsBefore_X4 : ∀ w ∈ wsX40, w ∈ wsX1_standsBefore := by decide +kernel
set_option maxHeartbeats 4000000 in
set_option maxRecDepth 100000 in
/-- Hall.standsBefore -/
theorem c_X1_standsBefore (lu : Launch) (Dg : va_G) (E : Nat → ClassId) (N : Nat) (G : Nat → Nat) (shp : Nat → (Nat → Int32) → va_E) (σ : Nat → Nat → Int32) {b : Nat} (hH : HallS E G shp N b) (c : Nat → Int32) {p q : Nat} (hp : p < 30) (hq : q < 30)  : CS lu yX1_standsBefore wsX1_standsBefore { frames := 1, cells := 0, slots := 0, locals := 21 } Dg E N G shp (hs σ b c) [.ref (G b), .int (nI p), .int (nI q)] (some (.int (bi (Ahead c p q)))) (hs σ b c) := by
  refine CS.of (cc := cX1_standsBefore) (maxL := 4) (ret := (some .boolean)) (by decide) rfl (Nat.le_of_ble_eq_true rfl) ?_
  intro p_ e_ s_ m_ args_ below_ meth_ c_
  refine v_eq (pc' := 0) (st' := []) rfl rfl ?_
  refine v_loc [0, 1, 2] [(0, .ref (G b)), (1, .int (nI p)), (2, .int (nI q))] rfl ?_
  refine v_aload_n 0 dX1_standsBefore_0 rfl rfl ?_
  refine v_iload_n 1 dX1_standsBefore_1 rfl rfl ?_
  refine u_callVv [.int (nI p)] [] 1 (c_X1_personOf lu Dg E N G shp σ hH c (k := p) (by omega)) (ci := 1) (C := RX1) (T := TX1) (NF := 11) hH.n hH.s rfl gX1_standsBefore_X1_personOf rfl rfl rfl (by decide +kernel) rfl ⟨Nat.le_of_ble_eq_true rfl, Nat.le_of_ble_eq_true rfl⟩ ⟨Nat.le_of_ble_eq_true rfl, Nat.le_of_ble_eq_true rfl⟩ (Nat.le_of_ble_eq_true rfl) rfl dX1_standsBefore_2 ?_
  refine p_geti (g := c) (k := 3) (q := p) (by omega) (c (58 + 10 * p + 2)) hH rfl (pF3 _ _) inX1_standsBefore_X4 (by decide) (by decide +kernel) rfl dX1_standsBefore_5 ?_
  refine v_aload_n 0 dX1_standsBefore_8 rfl rfl ?_
  refine v_iload_n 2 dX1_standsBefore_9 rfl rfl ?_
  refine u_callVv [.int (nI q)] [.int (c (58 + 10 * p + 2))] 1 (c_X1_personOf lu Dg E N G shp σ hH c (k := q) (by omega)) (ci := 1) (C := RX1) (T := TX1) (NF := 11) hH.n hH.s rfl gX1_standsBefore_X1_personOf rfl rfl rfl (by decide +kernel) rfl ⟨Nat.le_of_ble_eq_true rfl, Nat.le_of_ble_eq_true rfl⟩ ⟨Nat.le_of_ble_eq_true rfl, Nat.le_of_ble_eq_true rfl⟩ (Nat.le_of_ble_eq_true rfl) rfl dX1_standsBefore_10 ?_
  refine p_geti (g := c) (k := 3) (q := q) (by omega) (c (58 + 10 * q + 2)) hH rfl (pF3 _ _) inX1_standsBefore_X4 (by decide) (by decide +kernel) rfl dX1_standsBefore_13 ?_
  refine v_isub dX1_standsBefore_16 ?_
  refine v_istore_n [(3, .int ((c (58 + 10 * p + 2)) - (c (58 + 10 * q + 2)))), (0, .ref (G b)), (1, .int (nI p)), (2, .int (nI q))] dX1_standsBefore_17 rfl (by decide) rfl ?_
  refine v_iload_n 0 dX1_standsBefore_18 rfl rfl ?_
  refine v_if_gt 31 dX1_standsBefore_19 rfl (fun h19 => ?_) (fun h19 => ?_)
  · skip
    refine v_iconst (nI 1) dX1_standsBefore_31 (by decide +kernel) ?_
    refine v_goto 36 dX1_standsBefore_32 rfl ?_
    refine v_zret rfl (by decide +kernel) dX1_standsBefore_36 ⟨congrArg (fun z => some (Value.int z)) ?_, congrArg (φ shp) ?_⟩
    · exact bi_nt (by first | exact Or.inl h19 | exact Or.inr ⟨h23, h28⟩)
    · rfl
  · skip
    refine v_iload_n 0 dX1_standsBefore_22 rfl rfl ?_
    refine v_if_ne 35 dX1_standsBefore_23 rfl (fun h23 => ?_) (fun h23 => ?_)
    · skip
      refine v_iconst (nI 0) dX1_standsBefore_35 (by decide +kernel) ?_
      refine v_zret rfl (by decide +kernel) dX1_standsBefore_36 ⟨congrArg (fun z => some (Value.int z)) ?_, congrArg (φ shp) ?_⟩
      · exact bi_nf (by rintro (q9 | q9) <;> first | exact h19 q9 | exact h23 q9.1 | (have := q9.2; omega))
      · rfl
    · skip
      refine v_iload_n 2 dX1_standsBefore_26 rfl rfl ?_
      refine v_iload_n 3 dX1_standsBefore_27 rfl rfl ?_
      refine v_icmp_geN 35 (by omega) (by omega) dX1_standsBefore_28 rfl (fun h28 => ?_) (fun h28 => ?_)
      · skip
        refine v_iconst (nI 0) dX1_standsBefore_35 (by decide +kernel) ?_
        refine v_zret rfl (by decide +kernel) dX1_standsBefore_36 ⟨congrArg (fun z => some (Value.int z)) ?_, congrArg (φ shp) ?_⟩
        · exact bi_nf (by rintro (q9 | q9) <;> first | exact h19 q9 | exact h23 q9.1 | (have := q9.2; omega))
        · rfl
      · skip
        refine v_iconst (nI 1) dX1_standsBefore_31 (by decide +kernel) ?_
        refine v_goto 36 dX1_standsBefore_32 rfl ?_
        refine v_zret rfl (by decide +kernel) dX1_standsBefore_36 ⟨congrArg (fun z => some (Value.int z)) ?_, congrArg (φ shp) ?_⟩
        · exact bi_nt (by first | exact Or.inl h19 | exact Or.inr ⟨h23, h28⟩)
        · rfl
theorem upd_add0 (t : Nat → Int32) (i : Nat) : upd t i (t i + nI 0) = t := by
  funext x; simp only [upd_ap]
  by_cases e : x = i
  · subst e; rw [if_pos rfl, nI_z]; exact Int32.add_zero _
  · rw [if_neg e]
set_option maxRecDepth 100000 in
theorem inX1_certifyMinute_X1 : ∀ w ∈ wsX10, w ∈ wsX1_certifyMinute := by decide +kernel
set_option maxRecDepth 100000 in
theorem inX1_certifyMinute_X4 : ∀ w ∈ wsX40, w ∈ wsX1_certifyMinute := by decide +kernel
set_option maxHeartbeats 4000000 in
set_option maxRecDepth 100000 in
/-- Hall.certifyMinute -/
theorem c_X1_certifyMinute (lu : Launch) (Dg : va_G) (E : Nat → ClassId) (N : Nat) (G : Nat → Nat) (shp : Nat → (Nat → Int32) → va_E) (σ : Nat → Nat → Int32) {b : Nat} (hH : HallS E G shp N b) (c : Nat → Int32) {m : Nat} (hm : c 2 = nI m) (hm2 : m ≤ 30)  : CS lu yX1_certifyMinute wsX1_certifyMinute { frames := 2, cells := 0, slots := 0, locals := 42 } Dg E N G shp (hs σ b c) [.ref (G b)] none (hs σ b (certTo c m)) := by
  refine CS.of (cc := cX1_certifyMinute) (maxL := 2) (ret := none) (by decide) rfl (Nat.le_of_ble_eq_true rfl) ?_
  intro p_ e_ s_ m_ args_ below_ meth_ c_
  refine v_eq (pc' := 0) (st' := []) rfl rfl ?_
  refine v_loc [0] [(0, .ref (G b))] rfl ?_
  refine v_σ (hs σ b (certTo c 0)) (congrArg (fun z9 => hs σ b z9) (rfl)) ?_
  have hnp30 : m ≤ 30 := hm2
  refine v_iconst (nI 0) dX1_certifyMinute_0 (by decide +kernel) ?_
  refine v_istore_n [(1, .int (nI 0)), (0, .ref (G b))] dX1_certifyMinute_1 rfl (by decide) rfl ?_
  refine v_loc [0, 1] [(1, .int (nI 0)), (0, .ref (G b))] rfl ?_
  refine u_loop1 (fun n (k : Nat) => k + n = m) (fun (k : Nat) => hs σ b (certTo c k)) (fun (k : Nat) => [(1, .int (nI k)), (0, .ref (G b))]) (m) 0 ((by omega)) ?_
  intro n k hL ih
  refine v_iload_n 0 dX1_certifyMinute_2 rfl rfl ?_
  refine v_aload_n 1 dX1_certifyMinute_3 rfl rfl ?_
  refine h_geti (g := (certTo c k)) (k := 1) ((certTo c k) 2) hH rfl (hF1 _) inX1_certifyMinute_X1 (by decide) (by decide +kernel) rfl dX1_certifyMinute_4 ?_
  refine v_topi (nI m) ((by rw [certTo_out (fun p hp => by omega)]; exact hm)) ?_
  refine v_icmp_geN 38 (by omega) (by omega) dX1_certifyMinute_7 rfl (fun h7 => ?_) (fun h7 => ?_)
  · skip
    refine v_vret rfl dX1_certifyMinute_38 ⟨rfl, congrArg (φ shp) ?_⟩
    · obtain rfl : k = m := (by omega); rfl
  · skip
    refine v_aload_n 1 dX1_certifyMinute_10 rfl rfl ?_
    refine v_iload_n 0 dX1_certifyMinute_11 rfl rfl ?_
    refine u_callVv [.int (nI k)] [] 1 (c_X1_stands lu Dg E N G shp σ hH (certTo c k) (by rw [certTo_out (fun p hp => by omega)]; exact hm) hm2 (p := k) (by omega)) (ci := 1) (C := RX1) (T := TX1) (NF := 11) hH.n hH.s rfl gX1_certifyMinute_X1_stands rfl rfl rfl (by decide +kernel) rfl ⟨Nat.le_of_ble_eq_true rfl, Nat.le_of_ble_eq_true rfl⟩ ⟨Nat.le_of_ble_eq_true rfl, Nat.le_of_ble_eq_true rfl⟩ (Nat.le_of_ble_eq_true rfl) rfl dX1_certifyMinute_12 ?_
    refine v_if_eqB 32 dX1_certifyMinute_15 rfl (fun h15 => ?_) (fun h15 => ?_)
    · skip
      refine v_σ (hs σ b (certTo c (k + 1))) (congrArg (fun z9 => hs σ b z9) ((by simp only [certTo, certF]; rw [ic_f (fun q9 => h15 ⟨h7, q9⟩)]; exact (upd_add0 _ _).symm))) ?_
      refine v_iincN 0 [(1, .int (nI (k + 1))), (0, .ref (G b))] dX1_certifyMinute_32 rfl (by decide) rfl ?_
      refine v_goto 2 dX1_certifyMinute_35 rfl ?_
      refine v_loc [0, 1] [(1, .int (nI (k + 1))), (0, .ref (G b))] rfl ?_
      exact ih _ (k + 1) (show n - 1 < n by omega) (by omega)
    · skip
      refine v_aload_n 1 dX1_certifyMinute_18 rfl rfl ?_
      refine v_iload_n 0 dX1_certifyMinute_19 rfl rfl ?_
      refine u_callVv [.int (nI k)] [] 1 (c_X1_personOf lu Dg E N G shp σ hH (certTo c k) (k := k) (by omega)) (ci := 1) (C := RX1) (T := TX1) (NF := 11) hH.n hH.s rfl gX1_certifyMinute_X1_personOf rfl rfl rfl (by decide +kernel) rfl ⟨Nat.le_of_ble_eq_true rfl, Nat.le_of_ble_eq_true rfl⟩ ⟨Nat.le_of_ble_eq_true rfl, Nat.le_of_ble_eq_true rfl⟩ (Nat.le_of_ble_eq_true rfl) rfl dX1_certifyMinute_20 ?_
      refine v_dup dX1_certifyMinute_23 rfl ?_
      refine p_geti (g := (certTo c k)) (k := 3) (q := k) (by omega) ((certTo c k) (58 + 10 * k + 2)) hH rfl (pF3 _ _) inX1_certifyMinute_X4 (by decide) (by decide +kernel) rfl dX1_certifyMinute_24 ?_
      refine v_iconst (nI 1) dX1_certifyMinute_27 (by decide +kernel) ?_
      refine v_iadd dX1_certifyMinute_28 ?_
      refine p_puti (k := 3) (q := k) (by omega) hH rfl (hst_p3 (by omega) _) inX1_certifyMinute_X4 (by decide) (by decide +kernel) rfl rfl (by decide +kernel) dX1_certifyMinute_29 ?_
      generalize hg1 : upd (certTo c k) (58 + 10 * k + 2) (((certTo c k) (58 + 10 * k + 2)) + (nI 1)) = g1
      refine v_σ (hs σ b (certTo c (k + 1))) (congrArg (fun z9 => hs σ b z9) ((by simp only [certTo, certF]; rw [ic_t h15.2]; subst hg1; rfl))) ?_
      refine v_iincN 0 [(1, .int (nI (k + 1))), (0, .ref (G b))] dX1_certifyMinute_32 rfl (by decide) rfl ?_
      refine v_goto 2 dX1_certifyMinute_35 rfl ?_
      refine v_loc [0, 1] [(1, .int (nI (k + 1))), (0, .ref (G b))] rfl ?_
      exact ih _ (k + 1) (show n - 1 < n by omega) (by omega)
set_option maxRecDepth 100000 in
theorem inX1_payFees_X1 : ∀ w ∈ wsX10, w ∈ wsX1_payFees := by decide +kernel
set_option maxRecDepth 100000 in
theorem inX1_payFees_X4 : ∀ w ∈ wsX40, w ∈ wsX1_payFees := by decide +kernel
set_option maxHeartbeats 4000000 in
set_option maxRecDepth 100000 in
/-- Hall.payFees -/
theorem c_X1_payFees (lu : Launch) (Dg : va_G) (E : Nat → ClassId) (N : Nat) (G : Nat → Nat) (shp : Nat → (Nat → Int32) → va_E) (σ : Nat → Nat → Int32) {b : Nat} (hH : HallS E G shp N b) (c : Nat → Int32) {m : Nat} (hm : c 2 = nI m) (hm2 : m ≤ 30)  : CS lu yX1_payFees wsX1_payFees { frames := 2, cells := 0, slots := 0, locals := 42 } Dg E N G shp (hs σ b c) [.ref (G b)] none (hs σ b (payTo c m)) := by
  refine CS.of (cc := cX1_payFees) (maxL := 3) (ret := none) (by decide) rfl (Nat.le_of_ble_eq_true rfl) ?_
  intro p_ e_ s_ m_ args_ below_ meth_ c_
  refine v_eq (pc' := 0) (st' := []) rfl rfl ?_
  refine v_loc [0] [(0, .ref (G b))] rfl ?_
  refine v_σ (hs σ b (payTo c 0)) (congrArg (fun z9 => hs σ b z9) (rfl)) ?_
  have hnp30 : m ≤ 30 := hm2
  refine v_iconst (nI 0) dX1_payFees_0 (by decide +kernel) ?_
  refine v_istore_n [(1, .int (nI 0)), (0, .ref (G b))] dX1_payFees_1 rfl (by decide) rfl ?_
  refine v_loc [0, 1] [(1, .int (nI 0)), (0, .ref (G b))] rfl ?_
  refine u_loop1 (fun n (k : Nat) => k + n = m) (fun (k : Nat) => hs σ b (payTo c k)) (fun (k : Nat) => [(1, .int (nI k)), (0, .ref (G b))]) (m) 0 ((by omega)) ?_
  intro n k hL ih
  refine v_iload_n 0 dX1_payFees_2 rfl rfl ?_
  refine v_aload_n 1 dX1_payFees_3 rfl rfl ?_
  refine h_geti (g := (payTo c k)) (k := 1) ((payTo c k) 2) hH rfl (hF1 _) inX1_payFees_X1 (by decide) (by decide +kernel) rfl dX1_payFees_4 ?_
  refine v_topi (nI m) ((by rw [payTo_out (fun p hp => ⟨by omega, by omega⟩) (by omega)]; exact hm)) ?_
  refine v_icmp_geN 66 (by omega) (by omega) dX1_payFees_7 rfl (fun h7 => ?_) (fun h7 => ?_)
  · skip
    refine v_vret rfl dX1_payFees_66 ⟨rfl, congrArg (φ shp) ?_⟩
    · obtain rfl : k = m := (by omega); rfl
  · skip
    refine v_aload_n 1 dX1_payFees_10 rfl rfl ?_
    refine v_iload_n 0 dX1_payFees_11 rfl rfl ?_
    refine u_callVv [.int (nI k)] [] 1 (c_X1_personOf lu Dg E N G shp σ hH (payTo c k) (k := k) (by omega)) (ci := 1) (C := RX1) (T := TX1) (NF := 11) hH.n hH.s rfl gX1_payFees_X1_personOf rfl rfl rfl (by decide +kernel) rfl ⟨Nat.le_of_ble_eq_true rfl, Nat.le_of_ble_eq_true rfl⟩ ⟨Nat.le_of_ble_eq_true rfl, Nat.le_of_ble_eq_true rfl⟩ (Nat.le_of_ble_eq_true rfl) rfl dX1_payFees_12 ?_
    refine p_geti (g := (payTo c k)) (k := 3) (q := k) (by omega) ((payTo c k) (58 + 10 * k + 2)) hH rfl (pF3 _ _) inX1_payFees_X4 (by decide) (by decide +kernel) rfl dX1_payFees_15 ?_
    refine v_aload_n 1 dX1_payFees_18 rfl rfl ?_
    refine u_getr (k := 6) (C := RX1) (T := TX1) (NF := 11) hH.n hH.s rfl rfl inX1_payFees_X1 (by decide) (by decide +kernel) rfl dX1_payFees_19 ?_
    refine v_iconst (nI 0) dX1_payFees_22 (by decide +kernel) ?_
    refine s_ld 0 hH (rfl) (by omega) dX1_payFees_23 ?_
    refine v_isub dX1_payFees_24 ?_
    refine v_istore_n [(2, .int (((payTo c k) (58 + 10 * k + 2)) - ((payTo c k) (6)))), (1, .int (nI k)), (0, .ref (G b))] dX1_payFees_25 rfl (by decide) rfl ?_
    refine v_aload_n 2 dX1_payFees_26 rfl rfl ?_
    refine v_iload_n 1 dX1_payFees_27 rfl rfl ?_
    refine u_callVv [.int (nI k)] [] 1 (c_X1_stands lu Dg E N G shp σ hH (payTo c k) (by rw [payTo_out (fun p hp => ⟨by omega, by omega⟩) (by omega)]; exact hm) hm2 (p := k) (by omega)) (ci := 1) (C := RX1) (T := TX1) (NF := 11) hH.n hH.s rfl gX1_payFees_X1_stands rfl rfl rfl (by decide +kernel) rfl ⟨Nat.le_of_ble_eq_true rfl, Nat.le_of_ble_eq_true rfl⟩ ⟨Nat.le_of_ble_eq_true rfl, Nat.le_of_ble_eq_true rfl⟩ (Nat.le_of_ble_eq_true rfl) rfl dX1_payFees_28 ?_
    refine v_if_eqB 60 dX1_payFees_31 rfl (fun h31 => ?_) (fun h31 => ?_)
    · skip
      refine v_σ (hs σ b (payTo c (k + 1))) (congrArg (fun z9 => hs σ b z9) ((by simp only [payTo, payF]; rw [ic_f (fun q9 => by first | exact h31 ⟨h7, q9.1⟩ | exact absurd q9.2.1 (Int32.not_le.mpr h35) | exact h42 q9.2.2)]))) ?_
      refine v_iincN 1 [(1, .int (nI (k + 1))), (2, .int (((payTo c k) (58 + 10 * k + 2)) - ((payTo c k) (6)))), (0, .ref (G b))] dX1_payFees_60 rfl (by decide) rfl ?_
      refine v_goto 2 dX1_payFees_63 rfl ?_
      refine v_loc [0, 2] [(1, .int (nI (k + 1))), (0, .ref (G b))] rfl ?_
      exact ih _ (k + 1) (show n - 1 < n by omega) (by omega)
    · skip
      refine v_iload_n 0 dX1_payFees_34 rfl rfl ?_
      refine v_if_lt 60 dX1_payFees_35 rfl (fun h35 => ?_) (fun h35 => ?_)
      · skip
        refine v_σ (hs σ b (payTo c (k + 1))) (congrArg (fun z9 => hs σ b z9) ((by simp only [payTo, payF]; rw [ic_f (fun q9 => by first | exact h31 ⟨h7, q9.1⟩ | exact absurd q9.2.1 (Int32.not_le.mpr h35) | exact h42 q9.2.2)]))) ?_
        refine v_iincN 1 [(1, .int (nI (k + 1))), (2, .int (((payTo c k) (58 + 10 * k + 2)) - ((payTo c k) (6)))), (0, .ref (G b))] dX1_payFees_60 rfl (by decide) rfl ?_
        refine v_goto 2 dX1_payFees_63 rfl ?_
        refine v_loc [0, 2] [(1, .int (nI (k + 1))), (0, .ref (G b))] rfl ?_
        exact ih _ (k + 1) (show n - 1 < n by omega) (by omega)
      · skip
        refine v_iload_n 0 dX1_payFees_38 rfl rfl ?_
        refine v_bipush (nI 10) dX1_payFees_39 (by decide +kernel) ?_
        refine v_irem dX1_payFees_41 (by decide +kernel) ?_
        refine v_if_ne 60 dX1_payFees_42 rfl (fun h42 => ?_) (fun h42 => ?_)
        · skip
          refine v_σ (hs σ b (payTo c (k + 1))) (congrArg (fun z9 => hs σ b z9) ((by simp only [payTo, payF]; rw [ic_f (fun q9 => by first | exact h31 ⟨h7, q9.1⟩ | exact absurd q9.2.1 (Int32.not_le.mpr h35) | exact h42 q9.2.2)]))) ?_
          refine v_iincN 1 [(1, .int (nI (k + 1))), (2, .int (((payTo c k) (58 + 10 * k + 2)) - ((payTo c k) (6)))), (0, .ref (G b))] dX1_payFees_60 rfl (by decide) rfl ?_
          refine v_goto 2 dX1_payFees_63 rfl ?_
          refine v_loc [0, 2] [(1, .int (nI (k + 1))), (0, .ref (G b))] rfl ?_
          exact ih _ (k + 1) (show n - 1 < n by omega) (by omega)
        · skip
          refine v_aload_n 2 dX1_payFees_45 rfl rfl ?_
          refine v_aload_n 2 dX1_payFees_46 rfl rfl ?_
          refine v_iload_n 1 dX1_payFees_47 rfl rfl ?_
          refine u_callVv [.int (nI k)] [.ref (G b)] 1 (c_X1_personOf lu Dg E N G shp σ hH (payTo c k) (k := k) (by omega)) (ci := 1) (C := RX1) (T := TX1) (NF := 11) hH.n hH.s rfl gX1_payFees_X1_personOf rfl rfl rfl (by decide +kernel) rfl ⟨Nat.le_of_ble_eq_true rfl, Nat.le_of_ble_eq_true rfl⟩ ⟨Nat.le_of_ble_eq_true rfl, Nat.le_of_ble_eq_true rfl⟩ (Nat.le_of_ble_eq_true rfl) rfl dX1_payFees_48 ?_
          refine v_aload_n 2 dX1_payFees_51 rfl rfl ?_
          refine u_getr (k := 6) (C := RX1) (T := TX1) (NF := 11) hH.n hH.s rfl rfl inX1_payFees_X1 (by decide) (by decide +kernel) rfl dX1_payFees_52 ?_
          refine v_iconst (nI 1) dX1_payFees_55 (by decide +kernel) ?_
          refine s_ld 1 hH (rfl) (by omega) dX1_payFees_56 ?_
          refine u_callVn [.ref (G (b + 13 + k)), .int ((payTo c k) (7))] [] 2 (c_X1_payByHouse lu Dg E N G shp σ hH (payTo c k) (q := k) (by omega) ((payTo c k) (7))) (ci := 1) (C := RX1) (T := TX1) (NF := 11) hH.n hH.s rfl gX1_payFees_X1_payByHouse rfl rfl rfl (by decide +kernel) rfl ⟨Nat.le_of_ble_eq_true rfl, Nat.le_of_ble_eq_true rfl⟩ ⟨Nat.le_of_ble_eq_true rfl, Nat.le_of_ble_eq_true rfl⟩ (Nat.le_of_ble_eq_true rfl) rfl dX1_payFees_57 ?_
          refine v_σ (hs σ b (payTo c (k + 1))) (congrArg (fun z9 => hs σ b z9) ((by simp only [payTo, payF]; rw [ic_t ⟨h31.2, Int32.not_lt.mp h35, h42⟩]; exact payBy_U _ _))) ?_
          refine v_iincN 1 [(1, .int (nI (k + 1))), (2, .int (((payTo c k) (58 + 10 * k + 2)) - ((payTo c k) (6)))), (0, .ref (G b))] dX1_payFees_60 rfl (by decide) rfl ?_
          refine v_goto 2 dX1_payFees_63 rfl ?_
          refine v_loc [0, 2] [(1, .int (nI (k + 1))), (0, .ref (G b))] rfl ?_
          exact ih _ (k + 1) (show n - 1 < n by omega) (by omega)
