set_option maxRecDepth 100000 in
theorem inX6_placeOf_X6 : ∀ w ∈ wsX60, w ∈ wsX6_placeOf := by decide +kernel
set_option maxHeartbeats 4000000 in
set_option maxRecDepth 100000 in
/-- placeOf, of one in a line -/
theorem c_X6_placeOf (lu : Launch) (Dg : va_G) (E : Nat → ClassId) (N : Nat) (G : Nat → Nat) (shp : Nat → (Nat → Int32) → va_E) (σ : Nat → Nat → Int32) {b : Nat} (hM : ModS E G shp N b) (f0 f1 f2 f3 f4 f5 f6 : Nat → Int32) {p l len : Nat} (hp : p < 30) (hl : l < 3) (e1 : f1 (58 + 10 * p + 1) = nI l) (eln : f1 (13 + l) = nI len) (h12 : len ≤ 12)  : CS lu yX6_placeOf wsX6_placeOf { frames := 1, cells := 0, slots := 0, locals := 21 } Dg E N G shp (mk7 σ b f0 f1 f2 f3 f4 f5 f6) [.ref (G b), .int (nI p)] (some (.int (mplG (fun k => f1 (22 + 12 * l + k)) (nI p) len))) (mk7 σ b f0 f1 f2 f3 f4 f5 f6) := by
  refine CS.of (cc := cX6_placeOf) (maxL := 5) (ret := (some .int)) (by decide) rfl (Nat.le_of_ble_eq_true rfl) ?_
  intro p_ e_ s_ m_ args_ below_ meth_ c_
  refine v_eq (pc' := 0) (st' := []) rfl rfl ?_
  refine v_loc [0, 1] [(0, .ref (G b)), (1, .int (nI p))] rfl ?_
  refine v_aload_n 0 dX6_placeOf_0 rfl rfl ?_
  refine u_getr (k := 1) (C := RX6) (T := TX6) (NF := 13) hM.n hM.s rfl rfl inX6_placeOf_X6 (by decide) (by decide +kernel) rfl dX6_placeOf_1 ?_
  refine v_iload_n 1 dX6_placeOf_4 rfl rfl ?_
  refine v_iconst (nI 1) dX6_placeOf_5 (by decide +kernel) ?_
  refine u_callSv [.int (nI p), .int (nI 1)] [.ref (G (b + 1))] 2 (c_X6_of lu Dg E N G shp (mk7 σ b f0 f1 f2 f3 f4 f5 f6) p 1) gX6_placeOf_X6_of rfl rfl rfl (by decide +kernel) rfl ⟨Nat.le_of_ble_eq_true rfl, Nat.le_of_ble_eq_true rfl⟩ ⟨Nat.le_of_ble_eq_true rfl, Nat.le_of_ble_eq_true rfl⟩ (Nat.le_of_ble_eq_true rfl) rfl dX6_placeOf_6 ?_
  refine m_ld1 (58 + 10 * p + 1) hM (rfl) (by omega) dX6_placeOf_9 ?_
  refine v_topi (nI l) (e1) ?_
  refine v_istore_n [(2, .int (nI l)), (0, .ref (G b)), (1, .int (nI p))] dX6_placeOf_10 rfl (by decide) rfl ?_
  refine v_iconst ((-1)) dX6_placeOf_11 (by decide +kernel) ?_
  refine v_istore_n [(3, .int ((-1))), (2, .int (nI l)), (0, .ref (G b)), (1, .int (nI p))] dX6_placeOf_12 rfl (by decide) rfl ?_
  refine v_iconst (nI 0) dX6_placeOf_13 (by decide +kernel) ?_
  refine v_istore [(4, .int (nI 0)), (3, .int ((-1))), (2, .int (nI l)), (0, .ref (G b)), (1, .int (nI p))] dX6_placeOf_14 (by decide) rfl ?_
  refine v_loc [0, 1, 2, 4, 3] [(4, .int (nI 0)), (3, .int ((-1))), (2, .int (nI l)), (1, .int (nI p)), (0, .ref (G b))] rfl ?_
  refine u_loop2 (fun n (k : Nat) (v : Int32) => k + n = len ∧ v = mplG (fun k => f1 (22 + 12 * l + k)) (nI p) k) (fun (k : Nat) (v : Int32) => mk7 σ b f0 f1 f2 f3 f4 f5 f6) (fun (k : Nat) (v : Int32) => [(4, .int (nI k)), (3, .int v), (2, .int (nI l)), (1, .int (nI p)), (0, .ref (G b))]) (len) 0 (-1) (⟨by omega, rfl⟩) ?_
  intro n k v hI ih
  refine v_iload_n 2 dX6_placeOf_16 rfl rfl ?_
  refine v_iconst ((-1)) dX6_placeOf_17 (by decide +kernel) ?_
  refine v_icmp_eq 67 dX6_placeOf_18 rfl (fun h18 => ?_) (fun h18 => ?_)
  · skip
    exact absurd h18 (nI_m1 (by omega))
  · skip
    refine v_iload 0 dX6_placeOf_21 rfl ?_
    refine v_aload_n 4 dX6_placeOf_23 rfl rfl ?_
    refine u_getr (k := 1) (C := RX6) (T := TX6) (NF := 13) hM.n hM.s rfl rfl inX6_placeOf_X6 (by decide) (by decide +kernel) rfl dX6_placeOf_24 ?_
    refine v_bipush (nI 13) dX6_placeOf_27 (by decide +kernel) ?_
    refine v_iload_n 2 dX6_placeOf_29 rfl rfl ?_
    refine v_iaddN dX6_placeOf_30 ?_
    refine m_ld1 (13 + l) hM (rfl) (by omega) dX6_placeOf_31 ?_
    refine v_topi (nI len) (eln) ?_
    refine v_icmp_geN 67 (by omega) (by omega) dX6_placeOf_32 rfl (fun h32 => ?_) (fun h32 => ?_)
    · skip
      refine v_iload_n 1 dX6_placeOf_67 rfl rfl ?_
      refine v_iret rfl dX6_placeOf_68 ⟨congrArg (fun z => some (Value.int z)) ?_, congrArg (φ shp) ?_⟩
      · obtain rfl : k = len := (by omega); exact hI.2
      · rfl
    · skip
      refine v_aload_n 4 dX6_placeOf_35 rfl rfl ?_
      refine u_getr (k := 1) (C := RX6) (T := TX6) (NF := 13) hM.n hM.s rfl rfl inX6_placeOf_X6 (by decide) (by decide +kernel) rfl dX6_placeOf_36 ?_
      refine v_bipush (nI 22) dX6_placeOf_39 (by decide +kernel) ?_
      refine v_bipush (nI 12) dX6_placeOf_41 (by decide +kernel) ?_
      refine v_iload_n 2 dX6_placeOf_43 rfl rfl ?_
      refine v_imulN dX6_placeOf_44 ?_
      refine v_iaddN dX6_placeOf_45 ?_
      refine v_iload 0 dX6_placeOf_46 rfl ?_
      refine v_iaddN dX6_placeOf_48 ?_
      refine m_ld1 (22 + (12 * l) + k) hM (rfl) (by omega) dX6_placeOf_49 ?_
      refine v_iload_n 3 dX6_placeOf_50 rfl rfl ?_
      refine v_icmp_ne 59 dX6_placeOf_51 rfl (fun h51 => ?_) (fun h51 => ?_)
      · skip
        refine v_iload_n 1 dX6_placeOf_59 rfl rfl ?_
        refine v_istore_n [(3, .int v), (4, .int (nI k)), (2, .int (nI l)), (1, .int (nI p)), (0, .ref (G b))] dX6_placeOf_60 rfl (by decide) rfl ?_
        refine v_iincN 1 [(4, .int (nI (k + 1))), (3, .int v), (2, .int (nI l)), (1, .int (nI p)), (0, .ref (G b))] dX6_placeOf_61 rfl (by decide) rfl ?_
        refine v_goto 16 dX6_placeOf_64 rfl ?_
        refine v_loc [0, 1, 2, 3, 4] [(4, .int (nI (k + 1))), (3, .int v), (2, .int (nI l)), (1, .int (nI p)), (0, .ref (G b))] rfl ?_
        exact ih _ (k + 1) v (show n - 1 < n by omega) (⟨by omega, by simp only [mplG]; rw [if_neg h51]; exact hI.2⟩)
      · skip
        refine v_iload 0 dX6_placeOf_54 rfl ?_
        refine v_goto 60 dX6_placeOf_56 rfl ?_
        refine v_istore_n [(3, .int (nI k)), (4, .int (nI k)), (2, .int (nI l)), (1, .int (nI p)), (0, .ref (G b))] dX6_placeOf_60 rfl (by decide) rfl ?_
        refine v_iincN 1 [(4, .int (nI (k + 1))), (3, .int (nI k)), (2, .int (nI l)), (1, .int (nI p)), (0, .ref (G b))] dX6_placeOf_61 rfl (by decide) rfl ?_
        refine v_goto 16 dX6_placeOf_64 rfl ?_
        refine v_loc [0, 1, 2, 3, 4] [(4, .int (nI (k + 1))), (3, .int (nI k)), (2, .int (nI l)), (1, .int (nI p)), (0, .ref (G b))] rfl ?_
        exact ih _ (k + 1) (nI k) (show n - 1 < n by omega) (⟨by omega, by simp only [mplG]; rw [if_pos h51]⟩)

set_option maxHeartbeats 4000000 in
set_option maxRecDepth 100000 in
/-- placeOf, of one in no line -/
theorem c_X6_placeOf_n (lu : Launch) (Dg : va_G) (E : Nat → ClassId) (N : Nat) (G : Nat → Nat) (shp : Nat → (Nat → Int32) → va_E) (σ : Nat → Nat → Int32) {b : Nat} (hM : ModS E G shp N b) (f0 f1 f2 f3 f4 f5 f6 : Nat → Int32) {p : Nat} (hp : p < 30) (e1 : f1 (58 + 10 * p + 1) = -1)  : CS lu yX6_placeOf wsX6_placeOf { frames := 1, cells := 0, slots := 0, locals := 21 } Dg E N G shp (mk7 σ b f0 f1 f2 f3 f4 f5 f6) [.ref (G b), .int (nI p)] (some (.int (-1))) (mk7 σ b f0 f1 f2 f3 f4 f5 f6) := by
  refine CS.of (cc := cX6_placeOf) (maxL := 5) (ret := (some .int)) (by decide) rfl (Nat.le_of_ble_eq_true rfl) ?_
  intro p_ e_ s_ m_ args_ below_ meth_ c_
  refine v_eq (pc' := 0) (st' := []) rfl rfl ?_
  refine v_loc [0, 1] [(0, .ref (G b)), (1, .int (nI p))] rfl ?_
  refine v_aload_n 0 dX6_placeOf_0 rfl rfl ?_
  refine u_getr (k := 1) (C := RX6) (T := TX6) (NF := 13) hM.n hM.s rfl rfl inX6_placeOf_X6 (by decide) (by decide +kernel) rfl dX6_placeOf_1 ?_
  refine v_iload_n 1 dX6_placeOf_4 rfl rfl ?_
  refine v_iconst (nI 1) dX6_placeOf_5 (by decide +kernel) ?_
  refine u_callSv [.int (nI p), .int (nI 1)] [.ref (G (b + 1))] 2 (c_X6_of lu Dg E N G shp (mk7 σ b f0 f1 f2 f3 f4 f5 f6) p 1) gX6_placeOf_X6_of rfl rfl rfl (by decide +kernel) rfl ⟨Nat.le_of_ble_eq_true rfl, Nat.le_of_ble_eq_true rfl⟩ ⟨Nat.le_of_ble_eq_true rfl, Nat.le_of_ble_eq_true rfl⟩ (Nat.le_of_ble_eq_true rfl) rfl dX6_placeOf_6 ?_
  refine m_ld1 (58 + 10 * p + 1) hM (rfl) (by omega) dX6_placeOf_9 ?_
  refine v_topi ((-1)) (e1) ?_
  refine v_istore_n [(2, .int ((-1))), (0, .ref (G b)), (1, .int (nI p))] dX6_placeOf_10 rfl (by decide) rfl ?_
  refine v_iconst ((-1)) dX6_placeOf_11 (by decide +kernel) ?_
  refine v_istore_n [(3, .int ((-1))), (2, .int ((-1))), (0, .ref (G b)), (1, .int (nI p))] dX6_placeOf_12 rfl (by decide) rfl ?_
  refine v_iconst (nI 0) dX6_placeOf_13 (by decide +kernel) ?_
  refine v_istore [(4, .int (nI 0)), (3, .int ((-1))), (2, .int ((-1))), (0, .ref (G b)), (1, .int (nI p))] dX6_placeOf_14 (by decide) rfl ?_
  refine v_iload_n 2 dX6_placeOf_16 rfl rfl ?_
  refine v_iconst ((-1)) dX6_placeOf_17 (by decide +kernel) ?_
  refine v_icmp_eq 67 dX6_placeOf_18 rfl (fun h18 => ?_) (fun h18 => ?_)
  · skip
    refine v_iload_n 1 dX6_placeOf_67 rfl rfl ?_
    refine v_iret rfl dX6_placeOf_68 ⟨congrArg (fun z => some (Value.int z)) ?_, congrArg (φ shp) ?_⟩
    · rfl
    · rfl
  · skip
    exact absurd rfl h18

set_option maxRecDepth 100000 in
theorem inX6_lineOf_X6 : ∀ w ∈ wsX60, w ∈ wsX6_lineOf := by decide +kernel
set_option maxHeartbeats 4000000 in
set_option maxRecDepth 100000 in
/-- lineOf -/
theorem c_X6_lineOf (lu : Launch) (Dg : va_G) (E : Nat → ClassId) (N : Nat) (G : Nat → Nat) (shp : Nat → (Nat → Int32) → va_E) (σ : Nat → Nat → Int32) {b : Nat} (hM : ModS E G shp N b) (f0 f1 f2 f3 f4 f5 f6 : Nat → Int32) {m : Nat} (hm : f1 1 = nI m) (hm3 : m < 3) (x : Int32)  : CS lu yX6_lineOf wsX6_lineOf { frames := 0, cells := 0, slots := 0, locals := 0 } Dg E N G shp (mk7 σ b f0 f1 f2 f3 f4 f5 f6) [.ref (G b), .int x] (some (.int (nI m))) (mk7 σ b f0 (upd (upd f1 (10 + m) x) 1 (nI (m + 1))) f2 f3 f4 f5 f6) := by
  refine CS.of (cc := cX6_lineOf) (maxL := 3) (ret := (some .int)) (by decide) rfl (Nat.le_of_ble_eq_true rfl) ?_
  intro p_ e_ s_ m_ args_ below_ meth_ c_
  refine v_eq (pc' := 0) (st' := []) rfl rfl ?_
  refine v_loc [0, 1] [(0, .ref (G b)), (1, .int x)] rfl ?_
  refine v_aload_n 0 dX6_lineOf_0 rfl rfl ?_
  refine u_getr (k := 1) (C := RX6) (T := TX6) (NF := 13) hM.n hM.s rfl rfl inX6_lineOf_X6 (by decide) (by decide +kernel) rfl dX6_lineOf_1 ?_
  refine v_iconst (nI 1) dX6_lineOf_4 (by decide +kernel) ?_
  refine m_ld1 1 hM (rfl) (by omega) dX6_lineOf_5 ?_
  refine v_topi (nI m) (hm) ?_
  refine v_istore_n [(2, .int (nI m)), (0, .ref (G b)), (1, .int x)] dX6_lineOf_6 rfl (by decide) rfl ?_
  refine v_aload_n 1 dX6_lineOf_7 rfl rfl ?_
  refine u_getr (k := 1) (C := RX6) (T := TX6) (NF := 13) hM.n hM.s rfl rfl inX6_lineOf_X6 (by decide) (by decide +kernel) rfl dX6_lineOf_8 ?_
  refine v_bipush (nI 10) dX6_lineOf_11 (by decide +kernel) ?_
  refine v_iload_n 0 dX6_lineOf_13 rfl rfl ?_
  refine v_iaddN dX6_lineOf_14 ?_
  refine v_iload_n 2 dX6_lineOf_15 rfl rfl ?_
  refine m_st1 (10 + m) hM (rfl) (by omega) dX6_lineOf_16 ?_
  generalize hg1 : upd f1 (10 + m) (x) = g1
  refine v_aload_n 1 dX6_lineOf_17 rfl rfl ?_
  refine u_getr (k := 1) (C := RX6) (T := TX6) (NF := 13) hM.n hM.s rfl rfl inX6_lineOf_X6 (by decide) (by decide +kernel) rfl dX6_lineOf_18 ?_
  refine v_iconst (nI 1) dX6_lineOf_21 (by decide +kernel) ?_
  refine v_dup2 dX6_lineOf_22 rfl rfl ?_
  refine m_ld1 1 hM (rfl) (by omega) dX6_lineOf_23 ?_
  refine v_topi (nI m) ((by rw [← hg1, upd_ap, if_neg (by omega)]; exact hm)) ?_
  refine v_iconst (nI 1) dX6_lineOf_24 (by decide +kernel) ?_
  refine v_iaddN dX6_lineOf_25 ?_
  refine m_st1 1 hM (rfl) (by omega) dX6_lineOf_26 ?_
  generalize hg2 : upd g1 1 (nI (m + 1)) = g2
  refine v_iload_n 0 dX6_lineOf_27 rfl rfl ?_
  refine v_iret rfl dX6_lineOf_28 ⟨congrArg (fun z => some (Value.int z)) ?_, congrArg (φ shp) ?_⟩
  · rfl
  · subst hg1; subst hg2; rfl

set_option maxRecDepth 100000 in
theorem inX6_comeFault_X6 : ∀ w ∈ wsX60, w ∈ wsX6_comeFault := by decide +kernel
set_option maxHeartbeats 4000000 in
set_option maxRecDepth 100000 in
/-- comeFault -/
theorem c_X6_comeFault (lu : Launch) (Dg : va_G) (E : Nat → ClassId) (N : Nat) (G : Nat → Nat) (shp : Nat → (Nat → Int32) → va_E) (σ : Nat → Nat → Int32) {b : Nat} (hM : ModS E G shp N b) (f0 f1 f2 f3 f4 f5 f6 : Nat → Int32) {T : Nat} (hI : Inv T f1) (x y : Int32)  : CS lu yX6_comeFault wsX6_comeFault { frames := 2, cells := 0, slots := 0, locals := 43 } Dg E N G shp (mk7 σ b f0 f1 f2 f3 f4 f5 f6) [.ref (G b), .int x, .int y] (some (.int (nI (comeFl f1 x y)))) (mk7 σ b f0 f1 f2 f3 f4 f5 f6) := by
  refine CS.of (cc := cX6_comeFault) (maxL := 3) (ret := (some .int)) (by decide) rfl (Nat.le_of_ble_eq_true rfl) ?_
  intro p_ e_ s_ m_ args_ below_ meth_ c_
  refine v_eq (pc' := 0) (st' := []) rfl rfl ?_
  refine v_loc [0, 1, 2] [(0, .ref (G b)), (1, .int x), (2, .int y)] rfl ?_
  refine v_aload_n 0 dX6_comeFault_0 rfl rfl ?_
  refine v_iload_n 1 dX6_comeFault_1 rfl rfl ?_
  refine u_callVv [.int x] [] 1 (c_X6_isLine lu Dg E N G shp σ hM f0 f1 f2 f3 f4 f5 f6 hI.nl (by have := hI.nl3; omega) (x)) (ci := 6) (C := RX6) (T := TX6) (NF := 13) hM.n hM.s rfl gX6_comeFault_X6_isLine rfl rfl rfl (by decide +kernel) rfl ⟨Nat.le_of_ble_eq_true rfl, Nat.le_of_ble_eq_true rfl⟩ ⟨Nat.le_of_ble_eq_true rfl, Nat.le_of_ble_eq_true rfl⟩ (Nat.le_of_ble_eq_true rfl) rfl dX6_comeFault_2 ?_
  refine v_if_neB 10 dX6_comeFault_5 rfl (fun h5 => ?_) (fun h5 => ?_)
  · skip
    obtain ⟨j, hj, rfl⟩ := h5
    have hln := hI.len hj
    have hj3 : j < 3 := Nat.lt_of_lt_of_le hj hI.nl3
    refine v_iload_n 2 dX6_comeFault_10 rfl rfl ?_
    refine v_iconst (nI 0) dX6_comeFault_11 (by decide +kernel) ?_
    refine v_iconst (nI 2) dX6_comeFault_12 (by decide +kernel) ?_
    refine u_callSv [.int y, .int (nI 0), .int (nI 2)] [] 3 (c_X6_in lu Dg E N G shp (mk7 σ b f0 f1 f2 f3 f4 f5 f6) (y) (nI 0) (nI 2)) gX6_comeFault_X6_in rfl rfl rfl (by decide +kernel) rfl ⟨Nat.le_of_ble_eq_true rfl, Nat.le_of_ble_eq_true rfl⟩ ⟨Nat.le_of_ble_eq_true rfl, Nat.le_of_ble_eq_true rfl⟩ (Nat.le_of_ble_eq_true rfl) rfl dX6_comeFault_13 ?_
    refine v_if_neB 21 dX6_comeFault_16 rfl (fun h16 => ?_) (fun h16 => ?_)
    · skip
      refine v_aload_n 0 dX6_comeFault_21 rfl rfl ?_
      refine u_getr (k := 1) (C := RX6) (T := TX6) (NF := 13) hM.n hM.s rfl rfl inX6_comeFault_X6 (by decide) (by decide +kernel) rfl dX6_comeFault_22 ?_
      refine v_iconst (nI 2) dX6_comeFault_25 (by decide +kernel) ?_
      refine m_ld1 2 hM (rfl) (by omega) dX6_comeFault_26 ?_
      refine v_bipush (nI 30) dX6_comeFault_27 (by decide +kernel) ?_
      refine v_icmp_eq 46 dX6_comeFault_29 rfl (fun h29 => ?_) (fun h29 => ?_)
      · skip
        refine v_iconst (nI 3) dX6_comeFault_46 (by decide +kernel) ?_
        refine v_goto 51 dX6_comeFault_47 rfl ?_
        refine v_iret rfl dX6_comeFault_51 ⟨congrArg (fun z => some (Value.int z)) ?_, congrArg (φ shp) ?_⟩
        · exact congrArg nI (by rw [comeFl, ic_f (not_not_intro ⟨j, hj, rfl⟩), ic_f (not_not_intro ((Rg_le (n := 2) (by omega) y).mp h16)), tn_nI (by omega), ic_t (by first | exact Or.inl h29 | exact Or.inr h43)])
        · rfl
      · skip
        refine v_aload_n 0 dX6_comeFault_32 rfl rfl ?_
        refine u_getr (k := 1) (C := RX6) (T := TX6) (NF := 13) hM.n hM.s rfl rfl inX6_comeFault_X6 (by decide) (by decide +kernel) rfl dX6_comeFault_33 ?_
        refine v_bipush (nI 13) dX6_comeFault_36 (by decide +kernel) ?_
        refine v_iload_n 1 dX6_comeFault_38 rfl rfl ?_
        refine v_iaddN dX6_comeFault_39 ?_
        refine m_ld1 (13 + j) hM (rfl) (by omega) dX6_comeFault_40 ?_
        refine v_bipush (nI 12) dX6_comeFault_41 (by decide +kernel) ?_
        refine v_icmp_ne 50 dX6_comeFault_43 rfl (fun h43 => ?_) (fun h43 => ?_)
        · skip
          refine v_iconst (nI 0) dX6_comeFault_50 (by decide +kernel) ?_
          refine v_iret rfl dX6_comeFault_51 ⟨congrArg (fun z => some (Value.int z)) ?_, congrArg (φ shp) ?_⟩
          · exact congrArg nI (by rw [comeFl, ic_f (not_not_intro ⟨j, hj, rfl⟩), ic_f (not_not_intro ((Rg_le (n := 2) (by omega) y).mp h16)), tn_nI (by omega), ic_f (by rintro (q | q) <;> first | exact h29 q | exact h43 q)])
          · rfl
        · skip
          refine v_iconst (nI 3) dX6_comeFault_46 (by decide +kernel) ?_
          refine v_goto 51 dX6_comeFault_47 rfl ?_
          refine v_iret rfl dX6_comeFault_51 ⟨congrArg (fun z => some (Value.int z)) ?_, congrArg (φ shp) ?_⟩
          · exact congrArg nI (by rw [comeFl, ic_f (not_not_intro ⟨j, hj, rfl⟩), ic_f (not_not_intro ((Rg_le (n := 2) (by omega) y).mp h16)), tn_nI (by omega), ic_t (by first | exact Or.inl h29 | exact Or.inr h43)])
          · rfl
    · skip
      refine v_iconst (nI 2) dX6_comeFault_19 (by decide +kernel) ?_
      refine v_iret rfl dX6_comeFault_20 ⟨congrArg (fun z => some (Value.int z)) ?_, congrArg (φ shp) ?_⟩
      · exact congrArg nI (by rw [comeFl, ic_f (not_not_intro ⟨j, hj, rfl⟩), ic_t (fun q => h16 ((Rg_le (n := 2) (by omega) y).mpr q))])
      · rfl
  · skip
    refine v_iconst (nI 1) dX6_comeFault_8 (by decide +kernel) ?_
    refine v_iret rfl dX6_comeFault_9 ⟨congrArg (fun z => some (Value.int z)) ?_, congrArg (φ shp) ?_⟩
    · exact congrArg nI (by rw [comeFl, ic_t h5])
    · rfl

set_option maxRecDepth 100000 in
theorem inX6_comes_X6 : ∀ w ∈ wsX60, w ∈ wsX6_comes := by decide +kernel
set_option maxHeartbeats 4000000 in
set_option maxRecDepth 100000 in
/-- comes -/
theorem c_X6_comes (lu : Launch) (Dg : va_G) (E : Nat → ClassId) (N : Nat) (G : Nat → Nat) (shp : Nat → (Nat → Int32) → va_E) (σ : Nat → Nat → Int32) {b : Nat} (hM : ModS E G shp N b) (f0 f1 f2 f3 f4 f5 f6 : Nat → Int32) {p l len k0 : Nat} (hp2 : f1 2 = nI p) (hp : p < 30) (hl : l < 3) (hln : f1 (13 + l) = nI len) (h12 : len < 12)  : CS lu yX6_comes wsX6_comes { frames := 1, cells := 0, slots := 0, locals := 21 } Dg E N G shp (mk7 σ b f0 f1 f2 f3 f4 f5 f6) [.ref (G b), .int (nI l), .int (nI k0)] (some (.int (nI p))) (mk7 σ b f0 (comesF f1 p l len k0) f2 f3 f4 f5 f6) := by
  refine CS.of (cc := cX6_comes) (maxL := 5) (ret := (some .int)) (by decide) rfl (Nat.le_of_ble_eq_true rfl) ?_
  intro p_ e_ s_ m_ args_ below_ meth_ c_
  refine v_eq (pc' := 0) (st' := []) rfl rfl ?_
  refine v_loc [0, 1, 2] [(0, .ref (G b)), (1, .int (nI l)), (2, .int (nI k0))] rfl ?_
  refine v_aload_n 0 dX6_comes_0 rfl rfl ?_
  refine u_getr (k := 1) (C := RX6) (T := TX6) (NF := 13) hM.n hM.s rfl rfl inX6_comes_X6 (by decide) (by decide +kernel) rfl dX6_comes_1 ?_
  refine v_iconst (nI 2) dX6_comes_4 (by decide +kernel) ?_
  refine m_ld1 2 hM (rfl) (by omega) dX6_comes_5 ?_
  refine v_topi (nI p) (hp2) ?_
  refine v_istore_n [(3, .int (nI p)), (0, .ref (G b)), (1, .int (nI l)), (2, .int (nI k0))] dX6_comes_6 rfl (by decide) rfl ?_
  refine v_σ (mk7 σ b f0 (zeroF f1 (58 + 10 * p) 0) f2 f3 f4 f5 f6) (by rw [zeroF_0]) ?_
  refine v_iconst (nI 0) dX6_comes_7 (by decide +kernel) ?_
  refine v_istore [(4, .int (nI 0)), (3, .int (nI p)), (0, .ref (G b)), (1, .int (nI l)), (2, .int (nI k0))] dX6_comes_8 (by decide) rfl ?_
  refine v_loc [0, 1, 4, 3, 2] [(4, .int (nI 0)), (3, .int (nI p)), (2, .int (nI k0)), (1, .int (nI l)), (0, .ref (G b))] rfl ?_
  refine u_loop1 (fun n (k : Nat) => k + n = 10) (fun (k : Nat) => mk7 σ b f0 (zeroF f1 (58 + 10 * p) k) f2 f3 f4 f5 f6) (fun (k : Nat) => [(4, .int (nI k)), (3, .int (nI p)), (2, .int (nI k0)), (1, .int (nI l)), (0, .ref (G b))]) (10) 0 (rfl) ?_
  intro n k hI ih
  refine v_iload 0 dX6_comes_10 rfl ?_
  refine v_bipush (nI 10) dX6_comes_12 (by decide +kernel) ?_
  refine v_icmp_geN 35 (by omega) (by omega) dX6_comes_14 rfl (fun h14 => ?_) (fun h14 => ?_)
  · skip
    obtain rfl : k = 10 := by omega
    refine v_aload_n 4 dX6_comes_35 rfl rfl ?_
    refine u_getr (k := 1) (C := RX6) (T := TX6) (NF := 13) hM.n hM.s rfl rfl inX6_comes_X6 (by decide) (by decide +kernel) rfl dX6_comes_36 ?_
    refine v_iload_n 1 dX6_comes_39 rfl rfl ?_
    refine v_iconst (nI 0) dX6_comes_40 (by decide +kernel) ?_
    refine u_callSv [.int (nI p), .int (nI 0)] [.ref (G (b + 1))] 2 (c_X6_of lu Dg E N G shp (mk7 σ b f0 (zeroF f1 (58 + 10 * p) 10) f2 f3 f4 f5 f6) p 0) gX6_comes_X6_of rfl rfl rfl (by decide +kernel) rfl ⟨Nat.le_of_ble_eq_true rfl, Nat.le_of_ble_eq_true rfl⟩ ⟨Nat.le_of_ble_eq_true rfl, Nat.le_of_ble_eq_true rfl⟩ (Nat.le_of_ble_eq_true rfl) rfl dX6_comes_41 ?_
    refine v_iload_n 2 dX6_comes_44 rfl rfl ?_
    refine m_st1 (58 + 10 * p + 0) hM (rfl) (by omega) dX6_comes_45 ?_
    generalize hg1 : upd (zeroF f1 (58 + 10 * p) 10) (58 + 10 * p + 0) (nI k0) = g1
    refine v_aload_n 4 dX6_comes_46 rfl rfl ?_
    refine u_getr (k := 1) (C := RX6) (T := TX6) (NF := 13) hM.n hM.s rfl rfl inX6_comes_X6 (by decide) (by decide +kernel) rfl dX6_comes_47 ?_
    refine v_iload_n 1 dX6_comes_50 rfl rfl ?_
    refine v_iconst (nI 1) dX6_comes_51 (by decide +kernel) ?_
    refine u_callSv [.int (nI p), .int (nI 1)] [.ref (G (b + 1))] 2 (c_X6_of lu Dg E N G shp (mk7 σ b f0 g1 f2 f3 f4 f5 f6) p 1) gX6_comes_X6_of rfl rfl rfl (by decide +kernel) rfl ⟨Nat.le_of_ble_eq_true rfl, Nat.le_of_ble_eq_true rfl⟩ ⟨Nat.le_of_ble_eq_true rfl, Nat.le_of_ble_eq_true rfl⟩ (Nat.le_of_ble_eq_true rfl) rfl dX6_comes_52 ?_
    refine v_iload_n 3 dX6_comes_55 rfl rfl ?_
    refine m_st1 (58 + 10 * p + 1) hM (rfl) (by omega) dX6_comes_56 ?_
    generalize hg2 : upd g1 (58 + 10 * p + 1) (nI l) = g2
    refine v_aload_n 4 dX6_comes_57 rfl rfl ?_
    refine u_getr (k := 1) (C := RX6) (T := TX6) (NF := 13) hM.n hM.s rfl rfl inX6_comes_X6 (by decide) (by decide +kernel) rfl dX6_comes_58 ?_
    refine v_iload_n 1 dX6_comes_61 rfl rfl ?_
    refine v_bipush (nI 6) dX6_comes_62 (by decide +kernel) ?_
    refine u_callSv [.int (nI p), .int (nI 6)] [.ref (G (b + 1))] 2 (c_X6_of lu Dg E N G shp (mk7 σ b f0 g2 f2 f3 f4 f5 f6) p 6) gX6_comes_X6_of rfl rfl rfl (by decide +kernel) rfl ⟨Nat.le_of_ble_eq_true rfl, Nat.le_of_ble_eq_true rfl⟩ ⟨Nat.le_of_ble_eq_true rfl, Nat.le_of_ble_eq_true rfl⟩ (Nat.le_of_ble_eq_true rfl) rfl dX6_comes_64 ?_
    refine v_aload_n 4 dX6_comes_67 rfl rfl ?_
    refine u_getr (k := 1) (C := RX6) (T := TX6) (NF := 13) hM.n hM.s rfl rfl inX6_comes_X6 (by decide) (by decide +kernel) rfl dX6_comes_68 ?_
    refine v_iconst (nI 0) dX6_comes_71 (by decide +kernel) ?_
    refine m_ld1 0 hM (rfl) (by omega) dX6_comes_72 ?_
    refine v_topi (f1 0) ((by subst_vars; simp only [upd_ap, zeroF]; grind)) ?_
    refine m_st1 (58 + 10 * p + 6) hM (rfl) (by omega) dX6_comes_73 ?_
    generalize hg3 : upd g2 (58 + 10 * p + 6) (f1 0) = g3
    refine v_aload_n 4 dX6_comes_74 rfl rfl ?_
    refine u_getr (k := 1) (C := RX6) (T := TX6) (NF := 13) hM.n hM.s rfl rfl inX6_comes_X6 (by decide) (by decide +kernel) rfl dX6_comes_75 ?_
    refine v_iload_n 1 dX6_comes_78 rfl rfl ?_
    refine v_bipush (nI 8) dX6_comes_79 (by decide +kernel) ?_
    refine u_callSv [.int (nI p), .int (nI 8)] [.ref (G (b + 1))] 2 (c_X6_of lu Dg E N G shp (mk7 σ b f0 g3 f2 f3 f4 f5 f6) p 8) gX6_comes_X6_of rfl rfl rfl (by decide +kernel) rfl ⟨Nat.le_of_ble_eq_true rfl, Nat.le_of_ble_eq_true rfl⟩ ⟨Nat.le_of_ble_eq_true rfl, Nat.le_of_ble_eq_true rfl⟩ (Nat.le_of_ble_eq_true rfl) rfl dX6_comes_81 ?_
    refine v_bipush ((-9)) dX6_comes_84 (by decide +kernel) ?_
    refine m_st1 (58 + 10 * p + 8) hM (rfl) (by omega) dX6_comes_86 ?_
    generalize hg4 : upd g3 (58 + 10 * p + 8) ((-9)) = g4
    refine v_aload_n 4 dX6_comes_87 rfl rfl ?_
    refine u_getr (k := 1) (C := RX6) (T := TX6) (NF := 13) hM.n hM.s rfl rfl inX6_comes_X6 (by decide) (by decide +kernel) rfl dX6_comes_88 ?_
    refine v_bipush (nI 22) dX6_comes_91 (by decide +kernel) ?_
    refine v_bipush (nI 12) dX6_comes_93 (by decide +kernel) ?_
    refine v_iload_n 3 dX6_comes_95 rfl rfl ?_
    refine v_imulN dX6_comes_96 ?_
    refine v_iaddN dX6_comes_97 ?_
    refine v_aload_n 4 dX6_comes_98 rfl rfl ?_
    refine u_getr (k := 1) (C := RX6) (T := TX6) (NF := 13) hM.n hM.s rfl rfl inX6_comes_X6 (by decide) (by decide +kernel) rfl dX6_comes_99 ?_
    refine v_bipush (nI 13) dX6_comes_102 (by decide +kernel) ?_
    refine v_iload_n 3 dX6_comes_104 rfl rfl ?_
    refine v_iaddN dX6_comes_105 ?_
    refine m_ld1 (13 + l) hM (rfl) (by omega) dX6_comes_106 ?_
    refine v_topi (nI len) ((by rw [← hln]; subst_vars; simp only [upd_ap, zeroF]; grind)) ?_
    refine v_iaddN dX6_comes_107 ?_
    refine v_iload_n 1 dX6_comes_108 rfl rfl ?_
    refine m_st1 (22 + (12 * l) + len) hM (rfl) (by omega) dX6_comes_109 ?_
    generalize hg5 : upd g4 (22 + (12 * l) + len) (nI p) = g5
    refine v_aload_n 4 dX6_comes_110 rfl rfl ?_
    refine u_getr (k := 1) (C := RX6) (T := TX6) (NF := 13) hM.n hM.s rfl rfl inX6_comes_X6 (by decide) (by decide +kernel) rfl dX6_comes_111 ?_
    refine v_bipush (nI 13) dX6_comes_114 (by decide +kernel) ?_
    refine v_iload_n 3 dX6_comes_116 rfl rfl ?_
    refine v_iaddN dX6_comes_117 ?_
    refine v_dup2 dX6_comes_118 rfl rfl ?_
    refine m_ld1 (13 + l) hM (rfl) (by omega) dX6_comes_119 ?_
    refine v_topi (nI len) ((by rw [← hln]; subst_vars; simp only [upd_ap, zeroF]; grind)) ?_
    refine v_iconst (nI 1) dX6_comes_120 (by decide +kernel) ?_
    refine v_iaddN dX6_comes_121 ?_
    refine m_st1 (13 + l) hM (rfl) (by omega) dX6_comes_122 ?_
    generalize hg6 : upd g5 (13 + l) (nI (len + 1)) = g6
    refine v_aload_n 4 dX6_comes_123 rfl rfl ?_
    refine u_getr (k := 1) (C := RX6) (T := TX6) (NF := 13) hM.n hM.s rfl rfl inX6_comes_X6 (by decide) (by decide +kernel) rfl dX6_comes_124 ?_
    refine v_iconst (nI 2) dX6_comes_127 (by decide +kernel) ?_
    refine v_dup2 dX6_comes_128 rfl rfl ?_
    refine m_ld1 2 hM (rfl) (by omega) dX6_comes_129 ?_
    refine v_topi (nI p) ((by rw [← hp2]; subst_vars; simp only [upd_ap, zeroF]; grind)) ?_
    refine v_iconst (nI 1) dX6_comes_130 (by decide +kernel) ?_
    refine v_iaddN dX6_comes_131 ?_
    refine m_st1 2 hM (rfl) (by omega) dX6_comes_132 ?_
    generalize hg7 : upd g6 2 (nI (p + 1)) = g7
    refine v_iload_n 1 dX6_comes_133 rfl rfl ?_
    refine v_iret rfl dX6_comes_134 ⟨congrArg (fun z => some (Value.int z)) ?_, congrArg (φ shp) ?_⟩
    · rfl
    · subst hg1; subst hg2; subst hg3; subst hg4; subst hg5; subst hg6; subst hg7; rfl
  · skip
    refine v_aload_n 4 dX6_comes_17 rfl rfl ?_
    refine u_getr (k := 1) (C := RX6) (T := TX6) (NF := 13) hM.n hM.s rfl rfl inX6_comes_X6 (by decide) (by decide +kernel) rfl dX6_comes_18 ?_
    refine v_iload_n 1 dX6_comes_21 rfl rfl ?_
    refine v_iload 0 dX6_comes_22 rfl ?_
    refine u_callSv [.int (nI p), .int (nI k)] [.ref (G (b + 1))] 2 (c_X6_of lu Dg E N G shp (mk7 σ b f0 (zeroF f1 (58 + 10 * p) k) f2 f3 f4 f5 f6) p k) gX6_comes_X6_of rfl rfl rfl (by decide +kernel) rfl ⟨Nat.le_of_ble_eq_true rfl, Nat.le_of_ble_eq_true rfl⟩ ⟨Nat.le_of_ble_eq_true rfl, Nat.le_of_ble_eq_true rfl⟩ (Nat.le_of_ble_eq_true rfl) rfl dX6_comes_24 ?_
    refine v_iconst (nI 0) dX6_comes_27 (by decide +kernel) ?_
    refine m_st1 (58 + 10 * p + k) hM (rfl) (by omega) dX6_comes_28 ?_
    generalize hg8 : upd (zeroF f1 (58 + 10 * p) k) (58 + 10 * p + k) (nI 0) = g8
    have ez : g8 = zeroF f1 (58 + 10 * p) (k + 1) := by rw [← hg8, ← zeroF_s]; rfl
    rw [ez]
    refine v_iincN 0 [(4, .int (nI (k + 1))), (3, .int (nI p)), (2, .int (nI k0)), (1, .int (nI l)), (0, .ref (G b))] dX6_comes_29 rfl (by decide) rfl ?_
    refine v_goto 10 dX6_comes_32 rfl ?_
    refine v_loc [0, 1, 2, 3, 4] [(4, .int (nI (k + 1))), (3, .int (nI p)), (2, .int (nI k0)), (1, .int (nI l)), (0, .ref (G b))] rfl ?_
    exact ih _ (k + 1) (show n - 1 < n by omega) (by omega)

set_option maxRecDepth 100000 in
theorem inX6_leaves_X6 : ∀ w ∈ wsX60, w ∈ wsX6_leaves := by decide +kernel
set_option maxHeartbeats 4000000 in
set_option maxRecDepth 100000 in
/-- leaves -/
theorem c_X6_leaves (lu : Launch) (Dg : va_G) (E : Nat → ClassId) (N : Nat) (G : Nat → Nat) (shp : Nat → (Nat → Int32) → va_E) (σ : Nat → Nat → Int32) {b : Nat} (hM : ModS E G shp N b) (f0 f1 f2 f3 f4 f5 f6 : Nat → Int32) {l k len p : Nat} (hl : l < 3) (hk : k < len) (h12 : len ≤ 12) (hln : f1 (13 + l) = nI len) (hr : f1 (22 + 12 * l + k) = nI p) (hp : p < 30) (z : Int32)  : CS lu yX6_leaves wsX6_leaves { frames := 1, cells := 0, slots := 0, locals := 21 } Dg E N G shp (mk7 σ b f0 f1 f2 f3 f4 f5 f6) [.ref (G b), .int (nI l), .int (nI k), .int z] none (mk7 σ b f0 (leavesF f1 l k len p z) f2 f3 f4 f5 f6) := by
  refine CS.of (cc := cX6_leaves) (maxL := 6) (ret := none) (by decide) rfl (Nat.le_of_ble_eq_true rfl) ?_
  intro p_ e_ s_ m_ args_ below_ meth_ c_
  refine v_eq (pc' := 0) (st' := []) rfl rfl ?_
  refine v_loc [0, 1, 2, 3] [(0, .ref (G b)), (1, .int (nI l)), (2, .int (nI k)), (3, .int z)] rfl ?_
  refine v_aload_n 0 dX6_leaves_0 rfl rfl ?_
  refine u_getr (k := 1) (C := RX6) (T := TX6) (NF := 13) hM.n hM.s rfl rfl inX6_leaves_X6 (by decide) (by decide +kernel) rfl dX6_leaves_1 ?_
  refine v_bipush (nI 22) dX6_leaves_4 (by decide +kernel) ?_
  refine v_bipush (nI 12) dX6_leaves_6 (by decide +kernel) ?_
  refine v_iload_n 1 dX6_leaves_8 rfl rfl ?_
  refine v_imulN dX6_leaves_9 ?_
  refine v_iaddN dX6_leaves_10 ?_
  refine v_iload_n 2 dX6_leaves_11 rfl rfl ?_
  refine v_iaddN dX6_leaves_12 ?_
  refine m_ld1 (22 + (12 * l) + k) hM (rfl) (by omega) dX6_leaves_13 ?_
  refine v_topi (nI p) (hr) ?_
  refine v_istore [(4, .int (nI p)), (0, .ref (G b)), (1, .int (nI l)), (2, .int (nI k)), (3, .int z)] dX6_leaves_14 (by decide) rfl ?_
  refine v_σ (mk7 σ b f0 (shF f1 (22 + 12 * l) k k) f2 f3 f4 f5 f6) (by rw [shF_0]) ?_
  refine v_iload_n 3 dX6_leaves_16 rfl rfl ?_
  refine v_istore [(5, .int (nI k)), (4, .int (nI p)), (0, .ref (G b)), (1, .int (nI l)), (2, .int (nI k)), (3, .int z)] dX6_leaves_17 (by decide) rfl ?_
  refine v_loc [0, 1, 5, 4, 3, 2] [(5, .int (nI k)), (4, .int (nI p)), (3, .int z), (2, .int (nI k)), (1, .int (nI l)), (0, .ref (G b))] rfl ?_
  refine u_loop1 (fun n (j : Nat) => k ≤ j ∧ j + 1 + n = len) (fun (j : Nat) => mk7 σ b f0 (shF f1 (22 + 12 * l) k j) f2 f3 f4 f5 f6) (fun (j : Nat) => [(5, .int (nI j)), (4, .int (nI p)), (3, .int z), (2, .int (nI k)), (1, .int (nI l)), (0, .ref (G b))]) (len - 1 - k) k (⟨Nat.le_refl _, by omega⟩) ?_
  intro n j hI ih
  refine v_iload 0 dX6_leaves_19 rfl ?_
  refine v_iconst (nI 1) dX6_leaves_21 (by decide +kernel) ?_
  refine v_iaddN dX6_leaves_22 ?_
  refine v_aload_n 5 dX6_leaves_23 rfl rfl ?_
  refine u_getr (k := 1) (C := RX6) (T := TX6) (NF := 13) hM.n hM.s rfl rfl inX6_leaves_X6 (by decide) (by decide +kernel) rfl dX6_leaves_24 ?_
  refine v_bipush (nI 13) dX6_leaves_27 (by decide +kernel) ?_
  refine v_iload_n 4 dX6_leaves_29 rfl rfl ?_
  refine v_iaddN dX6_leaves_30 ?_
  refine m_ld1 (13 + l) hM (rfl) (by omega) dX6_leaves_31 ?_
  refine v_topi (nI len) ((by rw [shF_out _ (by omega)]; exact hln)) ?_
  refine v_icmp_geN 73 (by omega) (by omega) dX6_leaves_32 rfl (fun h32 => ?_) (fun h32 => ?_)
  · skip
    obtain rfl : j = len - 1 := by omega
    refine v_aload_n 5 dX6_leaves_73 rfl rfl ?_
    refine u_getr (k := 1) (C := RX6) (T := TX6) (NF := 13) hM.n hM.s rfl rfl inX6_leaves_X6 (by decide) (by decide +kernel) rfl dX6_leaves_74 ?_
    refine v_bipush (nI 13) dX6_leaves_77 (by decide +kernel) ?_
    refine v_iload_n 4 dX6_leaves_79 rfl rfl ?_
    refine v_iaddN dX6_leaves_80 ?_
    refine v_dup2 dX6_leaves_81 rfl rfl ?_
    refine m_ld1 (13 + l) hM (rfl) (by omega) dX6_leaves_82 ?_
    refine v_topi (nI len) ((by rw [shF_out _ (by omega)]; exact hln)) ?_
    refine v_iconst (nI 1) dX6_leaves_83 (by decide +kernel) ?_
    refine v_isubN (by omega) dX6_leaves_84 ?_
    refine m_st1 (13 + l) hM (rfl) (by omega) dX6_leaves_85 ?_
    generalize hg1 : upd (shF f1 (22 + 12 * l) k (len - 1)) (13 + l) (nI (len - 1)) = g1
    refine v_aload_n 5 dX6_leaves_86 rfl rfl ?_
    refine u_getr (k := 1) (C := RX6) (T := TX6) (NF := 13) hM.n hM.s rfl rfl inX6_leaves_X6 (by decide) (by decide +kernel) rfl dX6_leaves_87 ?_
    refine v_iload 1 dX6_leaves_90 rfl ?_
    refine v_iconst (nI 1) dX6_leaves_92 (by decide +kernel) ?_
    refine u_callSv [.int (nI p), .int (nI 1)] [.ref (G (b + 1))] 2 (c_X6_of lu Dg E N G shp (mk7 σ b f0 g1 f2 f3 f4 f5 f6) p 1) gX6_leaves_X6_of rfl rfl rfl (by decide +kernel) rfl ⟨Nat.le_of_ble_eq_true rfl, Nat.le_of_ble_eq_true rfl⟩ ⟨Nat.le_of_ble_eq_true rfl, Nat.le_of_ble_eq_true rfl⟩ (Nat.le_of_ble_eq_true rfl) rfl dX6_leaves_93 ?_
    refine v_iconst ((-1)) dX6_leaves_96 (by decide +kernel) ?_
    refine m_st1 (58 + 10 * p + 1) hM (rfl) (by omega) dX6_leaves_97 ?_
    generalize hg2 : upd g1 (58 + 10 * p + 1) ((-1)) = g2
    refine v_aload_n 5 dX6_leaves_98 rfl rfl ?_
    refine u_getr (k := 1) (C := RX6) (T := TX6) (NF := 13) hM.n hM.s rfl rfl inX6_leaves_X6 (by decide) (by decide +kernel) rfl dX6_leaves_99 ?_
    refine v_iload 1 dX6_leaves_102 rfl ?_
    refine v_iconst (nI 5) dX6_leaves_104 (by decide +kernel) ?_
    refine u_callSv [.int (nI p), .int (nI 5)] [.ref (G (b + 1))] 2 (c_X6_of lu Dg E N G shp (mk7 σ b f0 g2 f2 f3 f4 f5 f6) p 5) gX6_leaves_X6_of rfl rfl rfl (by decide +kernel) rfl ⟨Nat.le_of_ble_eq_true rfl, Nat.le_of_ble_eq_true rfl⟩ ⟨Nat.le_of_ble_eq_true rfl, Nat.le_of_ble_eq_true rfl⟩ (Nat.le_of_ble_eq_true rfl) rfl dX6_leaves_105 ?_
    refine v_iload_n 2 dX6_leaves_108 rfl rfl ?_
    refine m_st1 (58 + 10 * p + 5) hM (rfl) (by omega) dX6_leaves_109 ?_
    generalize hg3 : upd g2 (58 + 10 * p + 5) (z) = g3
    refine v_vret rfl dX6_leaves_110 ⟨rfl, congrArg (φ shp) ?_⟩
    · subst hg1; subst hg2; subst hg3; rfl
  · skip
    refine v_aload_n 5 dX6_leaves_35 rfl rfl ?_
    refine u_getr (k := 1) (C := RX6) (T := TX6) (NF := 13) hM.n hM.s rfl rfl inX6_leaves_X6 (by decide) (by decide +kernel) rfl dX6_leaves_36 ?_
    refine v_bipush (nI 22) dX6_leaves_39 (by decide +kernel) ?_
    refine v_bipush (nI 12) dX6_leaves_41 (by decide +kernel) ?_
    refine v_iload_n 4 dX6_leaves_43 rfl rfl ?_
    refine v_imulN dX6_leaves_44 ?_
    refine v_iaddN dX6_leaves_45 ?_
    refine v_iload 0 dX6_leaves_46 rfl ?_
    refine v_iaddN dX6_leaves_48 ?_
    refine v_aload_n 5 dX6_leaves_49 rfl rfl ?_
    refine u_getr (k := 1) (C := RX6) (T := TX6) (NF := 13) hM.n hM.s rfl rfl inX6_leaves_X6 (by decide) (by decide +kernel) rfl dX6_leaves_50 ?_
    refine v_bipush (nI 22) dX6_leaves_53 (by decide +kernel) ?_
    refine v_bipush (nI 12) dX6_leaves_55 (by decide +kernel) ?_
    refine v_iload_n 4 dX6_leaves_57 rfl rfl ?_
    refine v_imulN dX6_leaves_58 ?_
    refine v_iaddN dX6_leaves_59 ?_
    refine v_iload 0 dX6_leaves_60 rfl ?_
    refine v_iaddN dX6_leaves_62 ?_
    refine v_iconst (nI 1) dX6_leaves_63 (by decide +kernel) ?_
    refine v_iaddN dX6_leaves_64 ?_
    refine m_ld1 (22 + (12 * l) + j + 1) hM (rfl) (by omega) dX6_leaves_65 ?_
    refine m_st1 (22 + (12 * l) + j) hM (rfl) (by omega) dX6_leaves_66 ?_
    generalize hg4 : upd (shF f1 (22 + 12 * l) k j) (22 + (12 * l) + j) ((shF f1 (22 + 12 * l) k j) (22 + (12 * l) + j + 1)) = g4
    have ez : g4 = shF f1 (22 + 12 * l) k (j + 1) := by rw [← hg4, ← shF_s _ _ _ _ hI.1]
    rw [ez]
    refine v_iincN 0 [(5, .int (nI (j + 1))), (4, .int (nI p)), (3, .int z), (2, .int (nI k)), (1, .int (nI l)), (0, .ref (G b))] dX6_leaves_67 rfl (by decide) rfl ?_
    refine v_goto 19 dX6_leaves_70 rfl ?_
    refine v_loc [0, 1, 2, 3, 4, 5] [(5, .int (nI (j + 1))), (4, .int (nI p)), (3, .int z), (2, .int (nI k)), (1, .int (nI l)), (0, .ref (G b))] rfl ?_
    exact ih _ (j + 1) (show n - 1 < n by omega) (⟨by omega, by omega⟩)
