set_option maxRecDepth 100000 in
theorem inX4_end_X4 : ∀ w ∈ wsX40, w ∈ wsX4_end := by decide +kernel
set_option maxHeartbeats 4000000 in
set_option maxRecDepth 100000 in
/-- Person.end -/
theorem c_X4_end (lu : Launch) (Dg : va_G) (E : Nat → ClassId) (N : Nat) (G : Nat → Nat) (shp : Nat → (Nat → Int32) → va_E) (σ : Nat → Nat → Int32) {b : Nat} (hH : HallS E G shp N b) (c : Nat → Int32) {q : Nat} (hq : q < 30) (f : Int32)  : CS lu yX4_end wsX4_end { frames := 0, cells := 0, slots := 0, locals := 0 } Dg E N G shp (hs σ b c) [.ref (G (b + 13 + q)), .int f] none (hs σ b (upd (upd c (58 + 10 * q + 1) (-1)) (58 + 10 * q + 5) f)) := by
  refine CS.of (cc := cX4_end) (maxL := 2) (ret := none) (by decide) rfl (Nat.le_of_ble_eq_true rfl) ?_
  intro p_ e_ s_ m_ args_ below_ meth_ c_
  refine v_eq (pc' := 0) (st' := []) rfl rfl ?_
  refine v_loc [0, 1] [(0, .ref (G (b + 13 + q))), (1, .int f)] rfl ?_
  refine v_aload_n 0 dX4_end_0 rfl rfl ?_
  refine v_iconst ((-1)) dX4_end_1 (by decide +kernel) ?_
  refine p_puti (k := 1) (q := q) (by omega) hH rfl (hst_p1 (by omega) _) inX4_end_X4 (by decide) (by decide +kernel) rfl rfl (by decide +kernel) dX4_end_2 ?_
  generalize hg1 : upd c (58 + 10 * q + 1) ((-1)) = g1
  refine v_aload_n 0 dX4_end_5 rfl rfl ?_
  refine v_iload_n 1 dX4_end_6 rfl rfl ?_
  refine p_puti (k := 2) (q := q) (by omega) hH rfl (hst_p2 (by omega) _) inX4_end_X4 (by decide) (by decide +kernel) rfl rfl (by decide +kernel) dX4_end_7 ?_
  generalize hg2 : upd g1 (58 + 10 * q + 5) (f) = g2
  refine v_vret rfl dX4_end_10 ⟨rfl, congrArg (φ shp) ?_⟩
  · subst hg1; subst hg2; rfl
def enterP (c : Nat → Int32) (q : Nat) (k x now : Int32) : Nat → Int32 := upd (upd (upd (upd (upd (upd (upd (upd (upd c (58 + 10 * q) k) (58 + 10 * q + 1) x) (58 + 10 * q + 5) (nI 0)) (58 + 10 * q + 2) (nI 0)) (58 + 10 * q + 3) (nI 0)) (58 + 10 * q + 4) (nI 0)) (58 + 10 * q + 6) now) (58 + 10 * q + 7) (nI 0)) (58 + 10 * q + 8) (now - nI 5)
set_option maxRecDepth 100000 in
theorem inX4_enter_X4 : ∀ w ∈ wsX40, w ∈ wsX4_enter := by decide +kernel
set_option maxHeartbeats 4000000 in
set_option maxRecDepth 100000 in
/-- Person.enter -/
theorem c_X4_enter (lu : Launch) (Dg : va_G) (E : Nat → ClassId) (N : Nat) (G : Nat → Nat) (shp : Nat → (Nat → Int32) → va_E) (σ : Nat → Nat → Int32) {b : Nat} (hH : HallS E G shp N b) (c : Nat → Int32) {q : Nat} (hq : q < 30) (k x now : Int32)  : CS lu yX4_enter wsX4_enter { frames := 0, cells := 0, slots := 0, locals := 0 } Dg E N G shp (hs σ b c) [.ref (G (b + 13 + q)), .int k, .int x, .int now] none (hs σ b (enterP c q k x now)) := by
  refine CS.of (cc := cX4_enter) (maxL := 4) (ret := none) (by decide) rfl (Nat.le_of_ble_eq_true rfl) ?_
  intro p_ e_ s_ m_ args_ below_ meth_ c_
  refine v_eq (pc' := 0) (st' := []) rfl rfl ?_
  refine v_loc [0, 1, 2, 3] [(0, .ref (G (b + 13 + q))), (1, .int k), (2, .int x), (3, .int now)] rfl ?_
  refine v_aload_n 0 dX4_enter_0 rfl rfl ?_
  refine v_iload_n 1 dX4_enter_1 rfl rfl ?_
  refine p_puti (k := 0) (q := q) (by omega) hH rfl (hst_p0 (by omega) _) inX4_enter_X4 (by decide) (by decide +kernel) rfl rfl (by decide +kernel) dX4_enter_2 ?_
  generalize hg1 : upd c (58 + 10 * q) (k) = g1
  refine v_aload_n 0 dX4_enter_5 rfl rfl ?_
  refine v_iload_n 2 dX4_enter_6 rfl rfl ?_
  refine p_puti (k := 1) (q := q) (by omega) hH rfl (hst_p1 (by omega) _) inX4_enter_X4 (by decide) (by decide +kernel) rfl rfl (by decide +kernel) dX4_enter_7 ?_
  generalize hg2 : upd g1 (58 + 10 * q + 1) (x) = g2
  refine v_aload_n 0 dX4_enter_10 rfl rfl ?_
  refine v_iconst (nI 0) dX4_enter_11 (by decide +kernel) ?_
  refine p_puti (k := 2) (q := q) (by omega) hH rfl (hst_p2 (by omega) _) inX4_enter_X4 (by decide) (by decide +kernel) rfl rfl (by decide +kernel) dX4_enter_12 ?_
  generalize hg3 : upd g2 (58 + 10 * q + 5) (nI 0) = g3
  refine v_aload_n 0 dX4_enter_15 rfl rfl ?_
  refine v_iconst (nI 0) dX4_enter_16 (by decide +kernel) ?_
  refine p_puti (k := 3) (q := q) (by omega) hH rfl (hst_p3 (by omega) _) inX4_enter_X4 (by decide) (by decide +kernel) rfl rfl (by decide +kernel) dX4_enter_17 ?_
  generalize hg4 : upd g3 (58 + 10 * q + 2) (nI 0) = g4
  refine v_aload_n 0 dX4_enter_20 rfl rfl ?_
  refine v_iconst (nI 0) dX4_enter_21 (by decide +kernel) ?_
  refine p_puti (k := 4) (q := q) (by omega) hH rfl (hst_p4 (by omega) _) inX4_enter_X4 (by decide) (by decide +kernel) rfl rfl (by decide +kernel) dX4_enter_22 ?_
  generalize hg5 : upd g4 (58 + 10 * q + 3) (nI 0) = g5
  refine v_aload_n 0 dX4_enter_25 rfl rfl ?_
  refine v_iconst (nI 0) dX4_enter_26 (by decide +kernel) ?_
  refine p_puti (k := 5) (q := q) (by omega) hH rfl (hst_p5 (by omega) _) inX4_enter_X4 (by decide) (by decide +kernel) rfl rfl (by decide +kernel) dX4_enter_27 ?_
  generalize hg6 : upd g5 (58 + 10 * q + 4) (nI 0) = g6
  refine v_aload_n 0 dX4_enter_30 rfl rfl ?_
  refine v_iload_n 3 dX4_enter_31 rfl rfl ?_
  refine p_puti (k := 6) (q := q) (by omega) hH rfl (hst_p6 (by omega) _) inX4_enter_X4 (by decide) (by decide +kernel) rfl rfl (by decide +kernel) dX4_enter_32 ?_
  generalize hg7 : upd g6 (58 + 10 * q + 6) (now) = g7
  refine v_aload_n 0 dX4_enter_35 rfl rfl ?_
  refine v_iconst (nI 0) dX4_enter_36 (by decide +kernel) ?_
  refine p_puti (k := 7) (q := q) (by omega) hH rfl (hst_p7 (by omega) _) inX4_enter_X4 (by decide) (by decide +kernel) rfl rfl (by decide +kernel) dX4_enter_37 ?_
  generalize hg8 : upd g7 (58 + 10 * q + 7) (nI 0) = g8
  refine v_aload_n 0 dX4_enter_40 rfl rfl ?_
  refine v_iload_n 3 dX4_enter_41 rfl rfl ?_
  refine v_iconst (nI 5) dX4_enter_42 (by decide +kernel) ?_
  refine v_isub dX4_enter_43 ?_
  refine p_puti (k := 8) (q := q) (by omega) hH rfl (hst_p8 (by omega) _) inX4_enter_X4 (by decide) (by decide +kernel) rfl rfl (by decide +kernel) dX4_enter_44 ?_
  generalize hg9 : upd g8 (58 + 10 * q + 8) (now - (nI 5)) = g9
  refine v_vret rfl dX4_enter_47 ⟨rfl, congrArg (φ shp) ?_⟩
  · subst hg1; subst hg2; subst hg3; subst hg4; subst hg5; subst hg6; subst hg7; subst hg8; subst hg9; rfl
set_option maxRecDepth 100000 in
theorem inX3_begin_X3 : ∀ w ∈ wsX30, w ∈ wsX3_begin := by decide +kernel
set_option maxHeartbeats 4000000 in
set_option maxRecDepth 100000 in
/-- Line.begin -/
theorem c_X3_begin (lu : Launch) (Dg : va_G) (E : Nat → ClassId) (N : Nat) (G : Nat → Nat) (shp : Nat → (Nat → Int32) → va_E) (σ : Nat → Nat → Int32) {b : Nat} (hH : HallS E G shp N b) (c : Nat → Int32) {l : Nat} (hl : l < 3) (x : Int32)  : CS lu yX3_begin wsX3_begin { frames := 0, cells := 0, slots := 0, locals := 0 } Dg E N G shp (hs σ b c) [.ref (G (b + 7 + 2 * l)), .int x] none (hs σ b (upd (upd (upd (upd c (10 + l) x) (16 + l) (nI 0)) (19 + l) (nI 0)) (13 + l) (nI 0))) := by
  refine CS.of (cc := cX3_begin) (maxL := 2) (ret := none) (by decide) rfl (Nat.le_of_ble_eq_true rfl) ?_
  intro p_ e_ s_ m_ args_ below_ meth_ c_
  refine v_eq (pc' := 0) (st' := []) rfl rfl ?_
  refine v_loc [0, 1] [(0, .ref (G (b + 7 + 2 * l))), (1, .int x)] rfl ?_
  refine v_aload_n 0 dX3_begin_0 rfl rfl ?_
  refine v_iload_n 1 dX3_begin_1 rfl rfl ?_
  refine l_puti (k := 0) (y := l) (by omega) hH rfl (hst_l0 (by omega) _) inX3_begin_X3 (by decide) (by decide +kernel) rfl rfl (by decide +kernel) dX3_begin_2 ?_
  generalize hg1 : upd c (10 + l) (x) = g1
  refine v_aload_n 0 dX3_begin_5 rfl rfl ?_
  refine v_iconst (nI 0) dX3_begin_6 (by decide +kernel) ?_
  refine l_puti (k := 1) (y := l) (by omega) hH rfl (hst_l1 (by omega) _) inX3_begin_X3 (by decide) (by decide +kernel) rfl rfl (by decide +kernel) dX3_begin_7 ?_
  generalize hg2 : upd g1 (16 + l) (nI 0) = g2
  refine v_aload_n 0 dX3_begin_10 rfl rfl ?_
  refine v_iconst (nI 0) dX3_begin_11 (by decide +kernel) ?_
  refine l_puti (k := 2) (y := l) (by omega) hH rfl (hst_l2 (by omega) _) inX3_begin_X3 (by decide) (by decide +kernel) rfl rfl (by decide +kernel) dX3_begin_12 ?_
  generalize hg3 : upd g2 (19 + l) (nI 0) = g3
  refine v_aload_n 0 dX3_begin_15 rfl rfl ?_
  refine v_iconst (nI 0) dX3_begin_16 (by decide +kernel) ?_
  refine l_puti (k := 3) (y := l) (by omega) hH rfl (hst_l3 (by omega) _) inX3_begin_X3 (by decide) (by decide +kernel) rfl rfl (by decide +kernel) dX3_begin_17 ?_
  generalize hg4 : upd g3 (13 + l) (nI 0) = g4
  refine v_vret rfl dX3_begin_20 ⟨rfl, congrArg (φ shp) ?_⟩
  · subst hg1; subst hg2; subst hg3; subst hg4; rfl
set_option maxRecDepth 100000 in
theorem inX3_isPlace_X3 : ∀ w ∈ wsX30, w ∈ wsX3_isPlace := by decide +kernel
set_option maxHeartbeats 4000000 in
set_option maxRecDepth 100000 in
/-- Line.isPlace -/
theorem c_X3_isPlace (lu : Launch) (Dg : va_G) (E : Nat → ClassId) (N : Nat) (G : Nat → Nat) (shp : Nat → (Nat → Int32) → va_E) (σ : Nat → Nat → Int32) {b : Nat} (hH : HallS E G shp N b) (c : Nat → Int32) {l : Nat} (hl : l < 3) {len : Nat} (hln : c (13 + l) = nI len) (h12 : len ≤ 12) (k : Nat) (hk : k < 2 ^ 31)  : CS lu yX3_isPlace wsX3_isPlace { frames := 0, cells := 0, slots := 0, locals := 0 } Dg E N G shp (hs σ b c) [.ref (G (b + 7 + 2 * l)), .int (nI k)] (some (.int (bi (k < len)))) (hs σ b c) := by
  refine CS.of (cc := cX3_isPlace) (maxL := 2) (ret := (some .boolean)) (by decide) rfl (Nat.le_of_ble_eq_true rfl) ?_
  intro p_ e_ s_ m_ args_ below_ meth_ c_
  refine v_eq (pc' := 0) (st' := []) rfl rfl ?_
  refine v_loc [0, 1] [(0, .ref (G (b + 7 + 2 * l))), (1, .int (nI k))] rfl ?_
  refine v_iload_n 1 dX3_isPlace_0 rfl rfl ?_
  refine v_if_ltN (by omega) dX3_isPlace_1 ⟨25, rfl⟩ ?_
  refine v_iload_n 1 dX3_isPlace_4 rfl rfl ?_
  refine v_aload_n 0 dX3_isPlace_5 rfl rfl ?_
  refine l_geti (g := c) (k := 3) (y := l) (by omega) (c (13 + l)) hH rfl (lF3 _ _) inX3_isPlace_X3 (by decide) (by decide +kernel) rfl dX3_isPlace_6 ?_
  refine v_topi (nI len) (hln) ?_
  refine v_icmp_geN 25 (by omega) (by omega) dX3_isPlace_9 rfl (fun h9 => ?_) (fun h9 => ?_)
  · skip
    refine v_iconst (nI 0) dX3_isPlace_25 (by decide +kernel) ?_
    refine v_zret rfl (by decide +kernel) dX3_isPlace_26 ⟨congrArg (fun z => some (Value.int z)) ?_, congrArg (φ shp) ?_⟩
    · exact bi_nf (by omega)
    · rfl
  · skip
    refine v_iload_n 1 dX3_isPlace_12 rfl rfl ?_
    refine v_aload_n 0 dX3_isPlace_13 rfl rfl ?_
    refine u_getr (k := 4) (C := RX3) (T := TX3) (NF := 5) (hH.li (l := l) (by omega)).n (hH.li (l := l) (by omega)).2.1 rfl rfl inX3_isPlace_X3 (by decide) (by decide +kernel) rfl dX3_isPlace_14 ?_
    refine u_alenI 0 (hH.li (l := l) (by omega)).1 (hH.li (l := l) (by omega)).2.2 rfl dX3_isPlace_17 ?_
    refine v_icmp_geN 25 (by omega) (by omega) dX3_isPlace_18 rfl (fun h18 => ?_) (fun h18 => ?_)
    · skip
      refine v_iconst (nI 0) dX3_isPlace_25 (by decide +kernel) ?_
      refine v_zret rfl (by decide +kernel) dX3_isPlace_26 ⟨congrArg (fun z => some (Value.int z)) ?_, congrArg (φ shp) ?_⟩
      · exact bi_nf (by omega)
      · rfl
    · skip
      refine v_iconst (nI 1) dX3_isPlace_21 (by decide +kernel) ?_
      refine v_goto 26 dX3_isPlace_22 rfl ?_
      refine v_zret rfl (by decide +kernel) dX3_isPlace_26 ⟨congrArg (fun z => some (Value.int z)) ?_, congrArg (φ shp) ?_⟩
      · exact bi_nt (by omega)
      · rfl
set_option maxRecDepth 100000 in
theorem inX3_who_X3 : ∀ w ∈ wsX30, w ∈ wsX3_who := by decide +kernel
set_option maxHeartbeats 4000000 in
set_option maxRecDepth 100000 in
/-- Line.who -/
theorem c_X3_who (lu : Launch) (Dg : va_G) (E : Nat → ClassId) (N : Nat) (G : Nat → Nat) (shp : Nat → (Nat → Int32) → va_E) (σ : Nat → Nat → Int32) {b : Nat} (hH : HallS E G shp N b) (c : Nat → Int32) {l : Nat} (hl : l < 3) {len : Nat} (hln : c (13 + l) = nI len) (h12 : len ≤ 12) (k : Nat) (hk : k < 2 ^ 31)  : CS lu yX3_who wsX3_who { frames := 1, cells := 0, slots := 0, locals := 21 } Dg E N G shp (hs σ b c) [.ref (G (b + 7 + 2 * l)), .int (nI k)] (some (.int (ic (k < len) (c (22 + 12 * l + k)) (-1)))) (hs σ b c) := by
  refine CS.of (cc := cX3_who) (maxL := 2) (ret := (some .int)) (by decide) rfl (Nat.le_of_ble_eq_true rfl) ?_
  intro p_ e_ s_ m_ args_ below_ meth_ c_
  refine v_eq (pc' := 0) (st' := []) rfl rfl ?_
  refine v_loc [0, 1] [(0, .ref (G (b + 7 + 2 * l))), (1, .int (nI k))] rfl ?_
  refine v_aload_n 0 dX3_who_0 rfl rfl ?_
  refine v_iload_n 1 dX3_who_1 rfl rfl ?_
  refine u_callVv [.int (nI k)] [] 1 (c_X3_isPlace lu Dg E N G shp σ hH c (l := l) (by omega) hln h12 k (by omega)) (ci := 3) (C := RX3) (T := TX3) (NF := 5) (hH.li (l := l) (by omega)).n (hH.li (l := l) (by omega)).2.1 rfl gX3_who_X3_isPlace rfl rfl rfl (by decide +kernel) rfl ⟨Nat.le_of_ble_eq_true rfl, Nat.le_of_ble_eq_true rfl⟩ ⟨Nat.le_of_ble_eq_true rfl, Nat.le_of_ble_eq_true rfl⟩ (Nat.le_of_ble_eq_true rfl) rfl dX3_who_2 ?_
  refine v_if_eqB 17 dX3_who_5 rfl (fun h5 => ?_) (fun h5 => ?_)
  · skip
    refine v_iconst ((-1)) dX3_who_17 (by decide +kernel) ?_
    refine v_iret rfl dX3_who_18 ⟨congrArg (fun z => some (Value.int z)) ?_, congrArg (φ shp) ?_⟩
    · rw [ic_f h5]
    · rfl
  · skip
    refine v_aload_n 0 dX3_who_8 rfl rfl ?_
    refine u_getr (k := 4) (C := RX3) (T := TX3) (NF := 5) (hH.li (l := l) (by omega)).n (hH.li (l := l) (by omega)).2.1 rfl rfl inX3_who_X3 (by decide) (by decide +kernel) rfl dX3_who_9 ?_
    refine v_iload_n 1 dX3_who_12 rfl rfl ?_
    refine r_ld (y := l) (by omega) k hH (rfl) (by omega) dX3_who_13 ?_
    refine v_goto 18 dX3_who_14 rfl ?_
    refine v_iret rfl dX3_who_18 ⟨congrArg (fun z => some (Value.int z)) ?_, congrArg (φ shp) ?_⟩
    · rw [ic_t h5]
    · rfl
set_option maxRecDepth 100000 in
theorem inX3_placeOf_X3 : ∀ w ∈ wsX30, w ∈ wsX3_placeOf := by decide +kernel
set_option maxHeartbeats 4000000 in
set_option maxRecDepth 100000 in
/-- Line.placeOf -/
theorem c_X3_placeOf (lu : Launch) (Dg : va_G) (E : Nat → ClassId) (N : Nat) (G : Nat → Nat) (shp : Nat → (Nat → Int32) → va_E) (σ : Nat → Nat → Int32) {b : Nat} (hH : HallS E G shp N b) (c : Nat → Int32) {l : Nat} (hl : l < 3) {len : Nat} (hln : c (13 + l) = nI len) (h12 : len ≤ 12) (p : Int32)  : CS lu yX3_placeOf wsX3_placeOf { frames := 0, cells := 0, slots := 0, locals := 0 } Dg E N G shp (hs σ b c) [.ref (G (b + 7 + 2 * l)), .int p] (some (.int (plG (fun j => c (22 + 12 * l + j)) p len 0))) (hs σ b c) := by
  refine CS.of (cc := cX3_placeOf) (maxL := 3) (ret := (some .int)) (by decide) rfl (Nat.le_of_ble_eq_true rfl) ?_
  intro p_ e_ s_ m_ args_ below_ meth_ c_
  refine v_eq (pc' := 0) (st' := []) rfl rfl ?_
  refine v_loc [0, 1] [(0, .ref (G (b + 7 + 2 * l))), (1, .int p)] rfl ?_
  refine v_iconst (nI 0) dX3_placeOf_0 (by decide +kernel) ?_
  refine v_istore_n [(2, .int (nI 0)), (0, .ref (G (b + 7 + 2 * l))), (1, .int p)] dX3_placeOf_1 rfl (by decide) rfl ?_
  refine v_loc [0, 2, 1] [(2, .int (nI 0)), (1, .int p), (0, .ref (G (b + 7 + 2 * l)))] rfl ?_
  refine u_loop1 (fun n (k : Nat) => k + n = len ∧ plG (fun j => c (22 + 12 * l + j)) p n k = plG (fun j => c (22 + 12 * l + j)) p len 0) (fun (k : Nat) => hs σ b c) (fun (k : Nat) => [(2, .int (nI k)), (1, .int p), (0, .ref (G (b + 7 + 2 * l)))]) (len) 0 (⟨by omega, rfl⟩) ?_
  intro n k hI ih
  refine v_iload_n 0 dX3_placeOf_2 rfl rfl ?_
  refine v_aload_n 2 dX3_placeOf_3 rfl rfl ?_
  refine l_geti (g := c) (k := 3) (y := l) (by omega) (c (13 + l)) hH rfl (lF3 _ _) inX3_placeOf_X3 (by decide) (by decide +kernel) rfl dX3_placeOf_4 ?_
  refine v_topi (nI len) (hln) ?_
  refine v_icmp_geN 37 (by omega) (by omega) dX3_placeOf_7 rfl (fun h7 => ?_) (fun h7 => ?_)
  · skip
    refine v_iconst ((-1)) dX3_placeOf_37 (by decide +kernel) ?_
    refine v_iret rfl dX3_placeOf_38 ⟨congrArg (fun z => some (Value.int z)) ?_, congrArg (φ shp) ?_⟩
    · rw [← hI.2]; obtain rfl : n = 0 := (by omega); rfl
    · rfl
  · skip
    refine v_iload_n 0 dX3_placeOf_10 rfl rfl ?_
    refine v_aload_n 2 dX3_placeOf_11 rfl rfl ?_
    refine u_getr (k := 4) (C := RX3) (T := TX3) (NF := 5) (hH.li (l := l) (by omega)).n (hH.li (l := l) (by omega)).2.1 rfl rfl inX3_placeOf_X3 (by decide) (by decide +kernel) rfl dX3_placeOf_12 ?_
    refine u_alenI 0 (hH.li (l := l) (by omega)).1 (hH.li (l := l) (by omega)).2.2 rfl dX3_placeOf_15 ?_
    refine v_icmp_geN 37 (by omega) (by omega) dX3_placeOf_16 rfl (fun h16 => ?_) (fun h16 => ?_)
    · skip
      omega
    · skip
      refine v_aload_n 2 dX3_placeOf_19 rfl rfl ?_
      refine u_getr (k := 4) (C := RX3) (T := TX3) (NF := 5) (hH.li (l := l) (by omega)).n (hH.li (l := l) (by omega)).2.1 rfl rfl inX3_placeOf_X3 (by decide) (by decide +kernel) rfl dX3_placeOf_20 ?_
      refine v_iload_n 0 dX3_placeOf_23 rfl rfl ?_
      refine r_ld (y := l) (by omega) k hH (rfl) (by omega) dX3_placeOf_24 ?_
      refine v_iload_n 1 dX3_placeOf_25 rfl rfl ?_
      refine v_icmp_ne 31 dX3_placeOf_26 rfl (fun h26 => ?_) (fun h26 => ?_)
      · skip
        refine v_iincN 0 [(2, .int (nI (k + 1))), (1, .int p), (0, .ref (G (b + 7 + 2 * l)))] dX3_placeOf_31 rfl (by decide) rfl ?_
        refine v_goto 2 dX3_placeOf_34 rfl ?_
        refine v_loc [0, 1, 2] [(2, .int (nI (k + 1))), (1, .int p), (0, .ref (G (b + 7 + 2 * l)))] rfl ?_
        exact ih _ (k + 1) (show n - 1 < n by omega) (⟨by omega, by rw [← hI.2]; obtain ⟨j, rfl⟩ : ∃ j, n = j + 1 := ⟨n - 1, by omega⟩; simp only [plG, Nat.add_sub_cancel]; rw [if_neg h26]⟩)
      · skip
        refine v_iload_n 0 dX3_placeOf_29 rfl rfl ?_
        refine v_iret rfl dX3_placeOf_30 ⟨congrArg (fun z => some (Value.int z)) ?_, congrArg (φ shp) ?_⟩
        · rw [← hI.2]; obtain ⟨j, rfl⟩ : ∃ j, n = j + 1 := ⟨n - 1, by omega⟩; simp only [plG]; rw [if_pos h26]
        · rfl
set_option maxHeartbeats 4000000 in
set_option maxRecDepth 100000 in
/-- Line.placeOf of an empty line -/
theorem c_X3_placeOf_e (lu : Launch) (Dg : va_G) (E : Nat → ClassId) (N : Nat) (G : Nat → Nat) (shp : Nat → (Nat → Int32) → va_E) (σ : Nat → Nat → Int32)  {x : Nat} (hx : LineS E G shp N x) (h0 : σ x 3 = nI 0) (p : Int32)  : CS lu yX3_placeOf wsX3_placeOf { frames := 0, cells := 0, slots := 0, locals := 0 } Dg E N G shp σ [.ref (G x), .int p] (some (.int ((-1)))) σ := by
  refine CS.of (cc := cX3_placeOf) (maxL := 3) (ret := (some .int)) (by decide) rfl (Nat.le_of_ble_eq_true rfl) ?_
  intro p_ e_ s_ m_ args_ below_ meth_ c_
  refine v_eq (pc' := 0) (st' := []) rfl rfl ?_
  refine v_loc [0, 1] [(0, .ref (G x)), (1, .int p)] rfl ?_
  refine v_iconst (nI 0) dX3_placeOf_0 (by decide +kernel) ?_
  refine v_istore_n [(2, .int (nI 0)), (0, .ref (G x)), (1, .int p)] dX3_placeOf_1 rfl (by decide) rfl ?_
  refine v_iload_n 0 dX3_placeOf_2 rfl rfl ?_
  refine v_aload_n 1 dX3_placeOf_3 rfl rfl ?_
  refine u_geti (k := 3) (C := RX3) (T := TX3) (NF := 5) hx.n hx.2.1 rfl rfl inX3_placeOf_X3 (by decide) (by decide +kernel) rfl dX3_placeOf_4 ?_
  refine v_topi (nI 0) (h0) ?_
  refine v_icmp_geN 37 (by omega) (by omega) dX3_placeOf_7 rfl (fun h7 => ?_) (fun h7 => ?_)
  · skip
    refine v_iconst ((-1)) dX3_placeOf_37 (by decide +kernel) ?_
    refine v_iret rfl dX3_placeOf_38 ⟨congrArg (fun z => some (Value.int z)) ?_, congrArg (φ shp) ?_⟩
    · rfl
    · rfl
  · skip
    omega
set_option maxRecDepth 100000 in
theorem inX3_add_X3 : ∀ w ∈ wsX30, w ∈ wsX3_add := by decide +kernel
set_option maxHeartbeats 4000000 in
set_option maxRecDepth 100000 in
/-- Line.add -/
theorem c_X3_add (lu : Launch) (Dg : va_G) (E : Nat → ClassId) (N : Nat) (G : Nat → Nat) (shp : Nat → (Nat → Int32) → va_E) (σ : Nat → Nat → Int32) {b : Nat} (hH : HallS E G shp N b) (c : Nat → Int32) {l : Nat} (hl : l < 3) {len : Nat} (hln : c (13 + l) = nI len) (h12 : len < 12) (p : Int32)  : CS lu yX3_add wsX3_add { frames := 0, cells := 0, slots := 0, locals := 0 } Dg E N G shp (hs σ b c) [.ref (G (b + 7 + 2 * l)), .int p] none (hs σ b (upd (upd c (22 + 12 * l + len) p) (13 + l) (nI (len + 1)))) := by
  refine CS.of (cc := cX3_add) (maxL := 2) (ret := none) (by decide) rfl (Nat.le_of_ble_eq_true rfl) ?_
  intro p_ e_ s_ m_ args_ below_ meth_ c_
  refine v_eq (pc' := 0) (st' := []) rfl rfl ?_
  refine v_loc [0, 1] [(0, .ref (G (b + 7 + 2 * l))), (1, .int p)] rfl ?_
  refine v_aload_n 0 dX3_add_0 rfl rfl ?_
  refine l_geti (g := c) (k := 3) (y := l) (by omega) (c (13 + l)) hH rfl (lF3 _ _) inX3_add_X3 (by decide) (by decide +kernel) rfl dX3_add_1 ?_
  refine v_topi (nI len) (hln) ?_
  refine v_if_ltN (by omega) dX3_add_4 ⟨39, rfl⟩ ?_
  refine v_aload_n 0 dX3_add_7 rfl rfl ?_
  refine l_geti (g := c) (k := 3) (y := l) (by omega) (c (13 + l)) hH rfl (lF3 _ _) inX3_add_X3 (by decide) (by decide +kernel) rfl dX3_add_8 ?_
  refine v_topi (nI len) (hln) ?_
  refine v_aload_n 0 dX3_add_11 rfl rfl ?_
  refine u_getr (k := 4) (C := RX3) (T := TX3) (NF := 5) (hH.li (l := l) (by omega)).n (hH.li (l := l) (by omega)).2.1 rfl rfl inX3_add_X3 (by decide) (by decide +kernel) rfl dX3_add_12 ?_
  refine u_alenI 0 (hH.li (l := l) (by omega)).1 (hH.li (l := l) (by omega)).2.2 rfl dX3_add_15 ?_
  refine v_icmp_geN 39 (by omega) (by omega) dX3_add_16 rfl (fun h16 => ?_) (fun h16 => ?_)
  · skip
    omega
  · skip
    refine v_aload_n 0 dX3_add_19 rfl rfl ?_
    refine u_getr (k := 4) (C := RX3) (T := TX3) (NF := 5) (hH.li (l := l) (by omega)).n (hH.li (l := l) (by omega)).2.1 rfl rfl inX3_add_X3 (by decide) (by decide +kernel) rfl dX3_add_20 ?_
    refine v_aload_n 0 dX3_add_23 rfl rfl ?_
    refine l_geti (g := c) (k := 3) (y := l) (by omega) (c (13 + l)) hH rfl (lF3 _ _) inX3_add_X3 (by decide) (by decide +kernel) rfl dX3_add_24 ?_
    refine v_topi (nI len) (hln) ?_
    refine v_iload_n 1 dX3_add_27 rfl rfl ?_
    refine r_st (y := l) (by omega) len hH (rfl) (by omega) dX3_add_28 ?_
    generalize hg1 : upd c (22 + 12 * l + len) (p) = g1
    refine v_aload_n 0 dX3_add_29 rfl rfl ?_
    refine v_dup dX3_add_30 rfl ?_
    refine l_geti (g := g1) (k := 3) (y := l) (by omega) (g1 (13 + l)) hH rfl (lF3 _ _) inX3_add_X3 (by decide) (by decide +kernel) rfl dX3_add_31 ?_
    refine v_topi (nI len) ((by rw [← hg1, upd_ap, if_neg (by omega)]; exact hln)) ?_
    refine v_iconst (nI 1) dX3_add_34 (by decide +kernel) ?_
    refine v_iaddN dX3_add_35 ?_
    refine l_puti (k := 3) (y := l) (by omega) hH rfl (hst_l3 (by omega) _) inX3_add_X3 (by decide) (by decide +kernel) rfl rfl (by decide +kernel) dX3_add_36 ?_
    generalize hg2 : upd g1 (13 + l) (nI (len + 1)) = g2
    refine v_vret rfl dX3_add_39 ⟨rfl, congrArg (φ shp) ?_⟩
    · subst hg1; subst hg2; rfl
set_option maxRecDepth 100000 in
theorem inX3_remove_X3 : ∀ w ∈ wsX30, w ∈ wsX3_remove := by decide +kernel
set_option maxHeartbeats 4000000 in
set_option maxRecDepth 100000 in
/-- Line.remove -/
theorem c_X3_remove (lu : Launch) (Dg : va_G) (E : Nat → ClassId) (N : Nat) (G : Nat → Nat) (shp : Nat → (Nat → Int32) → va_E) (σ : Nat → Nat → Int32) {b : Nat} (hH : HallS E G shp N b) (c : Nat → Int32) {l : Nat} (hl : l < 3) {len : Nat} (hln : c (13 + l) = nI len) (h12 : len ≤ 12) {k : Nat} (hk : k < len)  : CS lu yX3_remove wsX3_remove { frames := 1, cells := 0, slots := 0, locals := 21 } Dg E N G shp (hs σ b c) [.ref (G (b + 7 + 2 * l)), .int (nI k)] none (hs σ b (shF (upd c (13 + l) (nI (len - 1))) (22 + 12 * l) k (len - 1))) := by
  refine CS.of (cc := cX3_remove) (maxL := 3) (ret := none) (by decide) rfl (Nat.le_of_ble_eq_true rfl) ?_
  intro p_ e_ s_ m_ args_ below_ meth_ c_
  refine v_eq (pc' := 0) (st' := []) rfl rfl ?_
  refine v_loc [0, 1] [(0, .ref (G (b + 7 + 2 * l))), (1, .int (nI k))] rfl ?_
  refine v_aload_n 0 dX3_remove_0 rfl rfl ?_
  refine v_iload_n 1 dX3_remove_1 rfl rfl ?_
  refine u_callVv [.int (nI k)] [] 1 (c_X3_isPlace lu Dg E N G shp σ hH c (l := l) (by omega) hln h12 k (by omega)) (ci := 3) (C := RX3) (T := TX3) (NF := 5) (hH.li (l := l) (by omega)).n (hH.li (l := l) (by omega)).2.1 rfl gX3_remove_X3_isPlace rfl rfl rfl (by decide +kernel) rfl ⟨Nat.le_of_ble_eq_true rfl, Nat.le_of_ble_eq_true rfl⟩ ⟨Nat.le_of_ble_eq_true rfl, Nat.le_of_ble_eq_true rfl⟩ (Nat.le_of_ble_eq_true rfl) rfl dX3_remove_2 ?_
  refine v_if_neB 9 dX3_remove_5 rfl (fun h5 => ?_) (fun h5 => ?_)
  · skip
    refine v_aload_n 0 dX3_remove_9 rfl rfl ?_
    refine v_dup dX3_remove_10 rfl ?_
    refine l_geti (g := c) (k := 3) (y := l) (by omega) (c (13 + l)) hH rfl (lF3 _ _) inX3_remove_X3 (by decide) (by decide +kernel) rfl dX3_remove_11 ?_
    refine v_topi (nI len) (hln) ?_
    refine v_iconst (nI 1) dX3_remove_14 (by decide +kernel) ?_
    refine v_isubN (by omega) dX3_remove_15 ?_
    refine l_puti (k := 3) (y := l) (by omega) hH rfl (hst_l3 (by omega) _) inX3_remove_X3 (by decide) (by decide +kernel) rfl rfl (by decide +kernel) dX3_remove_16 ?_
    generalize hg1 : upd c (13 + l) (nI (len - 1)) = g1
    refine v_σ (hs σ b (shF g1 (22 + 12 * l) k k)) (congrArg (fun z9 => hs σ b z9) ((shF_0 _ _ _).symm)) ?_
    refine v_iload_n 1 dX3_remove_19 rfl rfl ?_
    refine v_istore_n [(2, .int (nI k)), (0, .ref (G (b + 7 + 2 * l))), (1, .int (nI k))] dX3_remove_20 rfl (by decide) rfl ?_
    refine v_loc [0, 2, 1] [(2, .int (nI k)), (1, .int (nI k)), (0, .ref (G (b + 7 + 2 * l)))] rfl ?_
    refine u_loop1 (fun n (j : Nat) => k ≤ j ∧ j + n = len - 1) (fun (j : Nat) => hs σ b (shF g1 (22 + 12 * l) k j)) (fun (j : Nat) => [(2, .int (nI j)), (1, .int (nI k)), (0, .ref (G (b + 7 + 2 * l)))]) (len - 1 - k) k (⟨Nat.le_refl _, by omega⟩) ?_
    intro n j hI ih
    refine v_iload_n 0 dX3_remove_21 rfl rfl ?_
    refine v_aload_n 2 dX3_remove_22 rfl rfl ?_
    refine l_geti (g := (shF g1 (22 + 12 * l) k j)) (k := 3) (y := l) (by omega) ((shF g1 (22 + 12 * l) k j) (13 + l)) hH rfl (lF3 _ _) inX3_remove_X3 (by decide) (by decide +kernel) rfl dX3_remove_23 ?_
    refine v_topi (nI (len - 1)) ((by rw [shF_out _ (by omega), ← hg1, upd_ap, if_pos rfl])) ?_
    refine v_icmp_geN 60 (by omega) (by omega) dX3_remove_26 rfl (fun h26 => ?_) (fun h26 => ?_)
    · skip
      refine v_vret rfl dX3_remove_60 ⟨rfl, congrArg (φ shp) ?_⟩
      · obtain rfl : j = len - 1 := (by omega); subst hg1; rfl
    · skip
      refine v_iload_n 0 dX3_remove_29 rfl rfl ?_
      refine v_iconst (nI 1) dX3_remove_30 (by decide +kernel) ?_
      refine v_iaddN dX3_remove_31 ?_
      refine v_aload_n 2 dX3_remove_32 rfl rfl ?_
      refine u_getr (k := 4) (C := RX3) (T := TX3) (NF := 5) (hH.li (l := l) (by omega)).n (hH.li (l := l) (by omega)).2.1 rfl rfl inX3_remove_X3 (by decide) (by decide +kernel) rfl dX3_remove_33 ?_
      refine u_alenI 0 (hH.li (l := l) (by omega)).1 (hH.li (l := l) (by omega)).2.2 rfl dX3_remove_36 ?_
      refine v_icmp_geN 60 (by omega) (by omega) dX3_remove_37 rfl (fun h37 => ?_) (fun h37 => ?_)
      · skip
        omega
      · skip
        refine v_aload_n 2 dX3_remove_40 rfl rfl ?_
        refine u_getr (k := 4) (C := RX3) (T := TX3) (NF := 5) (hH.li (l := l) (by omega)).n (hH.li (l := l) (by omega)).2.1 rfl rfl inX3_remove_X3 (by decide) (by decide +kernel) rfl dX3_remove_41 ?_
        refine v_iload_n 0 dX3_remove_44 rfl rfl ?_
        refine v_aload_n 2 dX3_remove_45 rfl rfl ?_
        refine u_getr (k := 4) (C := RX3) (T := TX3) (NF := 5) (hH.li (l := l) (by omega)).n (hH.li (l := l) (by omega)).2.1 rfl rfl inX3_remove_X3 (by decide) (by decide +kernel) rfl dX3_remove_46 ?_
        refine v_iload_n 0 dX3_remove_49 rfl rfl ?_
        refine v_iconst (nI 1) dX3_remove_50 (by decide +kernel) ?_
        refine v_iaddN dX3_remove_51 ?_
        refine r_ld (y := l) (by omega) (j + 1) hH (rfl) (by omega) dX3_remove_52 ?_
        refine r_st (y := l) (by omega) j hH (rfl) (by omega) dX3_remove_53 ?_
        generalize hg2 : upd (shF g1 (22 + 12 * l) k j) (22 + 12 * l + j) ((shF g1 (22 + 12 * l) k j) (22 + 12 * l + j + 1)) = g2
        refine v_σ (hs σ b (shF g1 (22 + 12 * l) k (j + 1))) (congrArg (fun z9 => hs σ b z9) ((by rw [← shF_s _ _ _ _ hI.1]; subst hg2; rfl))) ?_
        refine v_iincN 0 [(2, .int (nI (j + 1))), (1, .int (nI k)), (0, .ref (G (b + 7 + 2 * l)))] dX3_remove_54 rfl (by decide) rfl ?_
        refine v_goto 21 dX3_remove_57 rfl ?_
        refine v_loc [0, 1, 2] [(2, .int (nI (j + 1))), (1, .int (nI k)), (0, .ref (G (b + 7 + 2 * l)))] rfl ?_
        exact ih _ (j + 1) (show n - 1 < n by omega) (⟨by omega, by omega⟩)
  · skip
    exact absurd hk h5
set_option maxRecDepth 100000 in
theorem inX3_swap_X3 : ∀ w ∈ wsX30, w ∈ wsX3_swap := by decide +kernel
set_option maxHeartbeats 4000000 in
set_option maxRecDepth 100000 in
/-- Line.swap -/
theorem c_X3_swap (lu : Launch) (Dg : va_G) (E : Nat → ClassId) (N : Nat) (G : Nat → Nat) (shp : Nat → (Nat → Int32) → va_E) (σ : Nat → Nat → Int32) {b : Nat} (hH : HallS E G shp N b) (c : Nat → Int32) {l : Nat} (hl : l < 3) {len : Nat} (hln : c (13 + l) = nI len) (h12 : len ≤ 12) {x y : Nat} (ha : x < len) (hb : y < len)  : CS lu yX3_swap wsX3_swap { frames := 1, cells := 0, slots := 0, locals := 21 } Dg E N G shp (hs σ b c) [.ref (G (b + 7 + 2 * l)), .int (nI x), .int (nI y)] none (hs σ b (upd (upd c (22 + 12 * l + x) (c (22 + 12 * l + y))) (22 + 12 * l + y) (c (22 + 12 * l + x)))) := by
  refine CS.of (cc := cX3_swap) (maxL := 4) (ret := none) (by decide) rfl (Nat.le_of_ble_eq_true rfl) ?_
  intro p_ e_ s_ m_ args_ below_ meth_ c_
  refine v_eq (pc' := 0) (st' := []) rfl rfl ?_
  refine v_loc [0, 1, 2] [(0, .ref (G (b + 7 + 2 * l))), (1, .int (nI x)), (2, .int (nI y))] rfl ?_
  refine v_aload_n 0 dX3_swap_0 rfl rfl ?_
  refine v_iload_n 1 dX3_swap_1 rfl rfl ?_
  refine u_callVv [.int (nI x)] [] 1 (c_X3_isPlace lu Dg E N G shp σ hH c (l := l) (by omega) hln h12 x (by omega)) (ci := 3) (C := RX3) (T := TX3) (NF := 5) (hH.li (l := l) (by omega)).n (hH.li (l := l) (by omega)).2.1 rfl gX3_swap_X3_isPlace rfl rfl rfl (by decide +kernel) rfl ⟨Nat.le_of_ble_eq_true rfl, Nat.le_of_ble_eq_true rfl⟩ ⟨Nat.le_of_ble_eq_true rfl, Nat.le_of_ble_eq_true rfl⟩ (Nat.le_of_ble_eq_true rfl) rfl dX3_swap_2 ?_
  refine v_if_eqB 42 dX3_swap_5 rfl (fun h5 => ?_) (fun h5 => ?_)
  · skip
    exact absurd ha h5
  · skip
    refine v_aload_n 0 dX3_swap_8 rfl rfl ?_
    refine v_iload_n 2 dX3_swap_9 rfl rfl ?_
    refine u_callVv [.int (nI y)] [] 1 (c_X3_isPlace lu Dg E N G shp σ hH c (l := l) (by omega) hln h12 y (by omega)) (ci := 3) (C := RX3) (T := TX3) (NF := 5) (hH.li (l := l) (by omega)).n (hH.li (l := l) (by omega)).2.1 rfl gX3_swap_X3_isPlace rfl rfl rfl (by decide +kernel) rfl ⟨Nat.le_of_ble_eq_true rfl, Nat.le_of_ble_eq_true rfl⟩ ⟨Nat.le_of_ble_eq_true rfl, Nat.le_of_ble_eq_true rfl⟩ (Nat.le_of_ble_eq_true rfl) rfl dX3_swap_10 ?_
    refine v_if_eqB 42 dX3_swap_13 rfl (fun h13 => ?_) (fun h13 => ?_)
    · skip
      exact absurd hb h13
    · skip
      refine v_aload_n 0 dX3_swap_16 rfl rfl ?_
      refine u_getr (k := 4) (C := RX3) (T := TX3) (NF := 5) (hH.li (l := l) (by omega)).n (hH.li (l := l) (by omega)).2.1 rfl rfl inX3_swap_X3 (by decide) (by decide +kernel) rfl dX3_swap_17 ?_
      refine v_iload_n 1 dX3_swap_20 rfl rfl ?_
      refine r_ld (y := l) (by omega) x hH (rfl) (by omega) dX3_swap_21 ?_
      refine v_istore_n [(3, .int (c (22 + 12 * l + x))), (0, .ref (G (b + 7 + 2 * l))), (1, .int (nI x)), (2, .int (nI y))] dX3_swap_22 rfl (by decide) rfl ?_
      refine v_aload_n 1 dX3_swap_23 rfl rfl ?_
      refine u_getr (k := 4) (C := RX3) (T := TX3) (NF := 5) (hH.li (l := l) (by omega)).n (hH.li (l := l) (by omega)).2.1 rfl rfl inX3_swap_X3 (by decide) (by decide +kernel) rfl dX3_swap_24 ?_
      refine v_iload_n 2 dX3_swap_27 rfl rfl ?_
      refine v_aload_n 1 dX3_swap_28 rfl rfl ?_
      refine u_getr (k := 4) (C := RX3) (T := TX3) (NF := 5) (hH.li (l := l) (by omega)).n (hH.li (l := l) (by omega)).2.1 rfl rfl inX3_swap_X3 (by decide) (by decide +kernel) rfl dX3_swap_29 ?_
      refine v_iload_n 3 dX3_swap_32 rfl rfl ?_
      refine r_ld (y := l) (by omega) y hH (rfl) (by omega) dX3_swap_33 ?_
      refine r_st (y := l) (by omega) x hH (rfl) (by omega) dX3_swap_34 ?_
      generalize hg1 : upd c (22 + 12 * l + x) (c (22 + 12 * l + y)) = g1
      refine v_aload_n 1 dX3_swap_35 rfl rfl ?_
      refine u_getr (k := 4) (C := RX3) (T := TX3) (NF := 5) (hH.li (l := l) (by omega)).n (hH.li (l := l) (by omega)).2.1 rfl rfl inX3_swap_X3 (by decide) (by decide +kernel) rfl dX3_swap_36 ?_
      refine v_iload_n 3 dX3_swap_39 rfl rfl ?_
      refine v_iload_n 0 dX3_swap_40 rfl rfl ?_
      refine r_st (y := l) (by omega) y hH (rfl) (by omega) dX3_swap_41 ?_
      generalize hg2 : upd g1 (22 + 12 * l + y) (c (22 + 12 * l + x)) = g2
      refine v_vret rfl dX3_swap_42 ⟨rfl, congrArg (φ shp) ?_⟩
      · subst hg1; subst hg2; rfl
set_option maxRecDepth 100000 in
theorem inX3_waitAt_X3 : ∀ w ∈ wsX30, w ∈ wsX3_waitAt := by decide +kernel
set_option maxHeartbeats 4000000 in
set_option maxRecDepth 100000 in
/-- Line.waitAt -/
theorem c_X3_waitAt (lu : Launch) (Dg : va_G) (E : Nat → ClassId) (N : Nat) (G : Nat → Nat) (shp : Nat → (Nat → Int32) → va_E) (σ : Nat → Nat → Int32) {b : Nat} (hH : HallS E G shp N b) (c : Nat → Int32) {l : Nat} (hl : l < 3) (k : Nat)  : CS lu yX3_waitAt wsX3_waitAt { frames := 0, cells := 0, slots := 0, locals := 0 } Dg E N G shp (hs σ b c) [.ref (G (b + 7 + 2 * l)), .int (nI k)] (some (.int (c (10 + l) * nI (k + 1) - c (16 + l)))) (hs σ b c) := by
  refine CS.of (cc := cX3_waitAt) (maxL := 2) (ret := (some .int)) (by decide) rfl (Nat.le_of_ble_eq_true rfl) ?_
  intro p_ e_ s_ m_ args_ below_ meth_ c_
  refine v_eq (pc' := 0) (st' := []) rfl rfl ?_
  refine v_loc [0, 1] [(0, .ref (G (b + 7 + 2 * l))), (1, .int (nI k))] rfl ?_
  refine v_aload_n 0 dX3_waitAt_0 rfl rfl ?_
  refine l_geti (g := c) (k := 0) (y := l) (by omega) (c (10 + l)) hH rfl (lF0 _ _) inX3_waitAt_X3 (by decide) (by decide +kernel) rfl dX3_waitAt_1 ?_
  refine v_iload_n 1 dX3_waitAt_4 rfl rfl ?_
  refine v_iconst (nI 1) dX3_waitAt_5 (by decide +kernel) ?_
  refine v_iaddN dX3_waitAt_6 ?_
  refine v_imul dX3_waitAt_7 ?_
  refine v_aload_n 0 dX3_waitAt_8 rfl rfl ?_
  refine l_geti (g := c) (k := 1) (y := l) (by omega) (c (16 + l)) hH rfl (lF1 _ _) inX3_waitAt_X3 (by decide) (by decide +kernel) rfl dX3_waitAt_9 ?_
  refine v_isub dX3_waitAt_12 ?_
  refine v_iret rfl dX3_waitAt_13 ⟨congrArg (fun z => some (Value.int z)) ?_, congrArg (φ shp) ?_⟩
  · rfl
  · rfl
set_option maxRecDepth 100000 in
theorem inX1_isLine_X1 : ∀ w ∈ wsX10, w ∈ wsX1_isLine := by decide +kernel
set_option maxHeartbeats 4000000 in
set_option maxRecDepth 100000 in
/-- Hall.isLine -/
theorem c_X1_isLine (lu : Launch) (Dg : va_G) (E : Nat → ClassId) (N : Nat) (G : Nat → Nat) (shp : Nat → (Nat → Int32) → va_E) (σ : Nat → Nat → Int32) {b : Nat} (hH : HallS E G shp N b) (c : Nat → Int32) {m : Nat} (hm : c 1 = nI m) (hm2 : m < 2 ^ 31) (x : Int32)  : CS lu yX1_isLine wsX1_isLine { frames := 0, cells := 0, slots := 0, locals := 0 } Dg E N G shp (hs σ b c) [.ref (G b), .int x] (some (.int (bi (Rg m x)))) (hs σ b c) := by
  refine CS.of (cc := cX1_isLine) (maxL := 2) (ret := (some .boolean)) (by decide) rfl (Nat.le_of_ble_eq_true rfl) ?_
  intro p_ e_ s_ m_ args_ below_ meth_ c_
  refine v_eq (pc' := 0) (st' := []) rfl rfl ?_
  refine v_loc [0, 1] [(0, .ref (G b)), (1, .int x)] rfl ?_
  refine v_iload_n 1 dX1_isLine_0 rfl rfl ?_
  refine v_if_lt 16 dX1_isLine_1 rfl (fun h1 => ?_) (fun h1 => ?_)
  · skip
    refine v_iconst (nI 0) dX1_isLine_16 (by decide +kernel) ?_
    refine v_zret rfl (by decide +kernel) dX1_isLine_17 ⟨congrArg (fun z => some (Value.int z)) ?_, congrArg (φ shp) ?_⟩
    · first | exact bi_nf (fun q9 => absurd ((Rg_lt (by omega) x).mpr q9).1 (Int32.not_le.mpr h1)) | exact bi_nf (fun q9 => absurd ((Rg_lt (by omega) x).mpr q9).2 (Int32.not_lt.mpr h9))
    · rfl
  · skip
    refine v_iload_n 1 dX1_isLine_4 rfl rfl ?_
    refine v_aload_n 0 dX1_isLine_5 rfl rfl ?_
    refine h_geti (g := c) (k := 0) (c 1) hH rfl (hF0 _) inX1_isLine_X1 (by decide) (by decide +kernel) rfl dX1_isLine_6 ?_
    refine v_topi (nI m) (hm) ?_
    refine v_icmp_ge 16 dX1_isLine_9 rfl (fun h9 => ?_) (fun h9 => ?_)
    · skip
      refine v_iconst (nI 0) dX1_isLine_16 (by decide +kernel) ?_
      refine v_zret rfl (by decide +kernel) dX1_isLine_17 ⟨congrArg (fun z => some (Value.int z)) ?_, congrArg (φ shp) ?_⟩
      · first | exact bi_nf (fun q9 => absurd ((Rg_lt (by omega) x).mpr q9).1 (Int32.not_le.mpr h1)) | exact bi_nf (fun q9 => absurd ((Rg_lt (by omega) x).mpr q9).2 (Int32.not_lt.mpr h9))
      · rfl
    · skip
      refine v_iconst (nI 1) dX1_isLine_12 (by decide +kernel) ?_
      refine v_goto 17 dX1_isLine_13 rfl ?_
      refine v_zret rfl (by decide +kernel) dX1_isLine_17 ⟨congrArg (fun z => some (Value.int z)) ?_, congrArg (φ shp) ?_⟩
      · exact bi_nt ((Rg_lt (by omega) x).mp ⟨Int32.not_lt.mp h1, Int32.not_le.mp h9⟩)
      · rfl
set_option maxRecDepth 100000 in
theorem inX1_isPerson_X1 : ∀ w ∈ wsX10, w ∈ wsX1_isPerson := by decide +kernel
set_option maxHeartbeats 4000000 in
set_option maxRecDepth 100000 in
/-- Hall.isPerson -/
theorem c_X1_isPerson (lu : Launch) (Dg : va_G) (E : Nat → ClassId) (N : Nat) (G : Nat → Nat) (shp : Nat → (Nat → Int32) → va_E) (σ : Nat → Nat → Int32) {b : Nat} (hH : HallS E G shp N b) (c : Nat → Int32) {m : Nat} (hm : c 2 = nI m) (hm2 : m < 2 ^ 31) (x : Int32)  : CS lu yX1_isPerson wsX1_isPerson { frames := 0, cells := 0, slots := 0, locals := 0 } Dg E N G shp (hs σ b c) [.ref (G b), .int x] (some (.int (bi (Rg m x)))) (hs σ b c) := by
  refine CS.of (cc := cX1_isPerson) (maxL := 2) (ret := (some .boolean)) (by decide) rfl (Nat.le_of_ble_eq_true rfl) ?_
  intro p_ e_ s_ m_ args_ below_ meth_ c_
  refine v_eq (pc' := 0) (st' := []) rfl rfl ?_
  refine v_loc [0, 1] [(0, .ref (G b)), (1, .int x)] rfl ?_
  refine v_iload_n 1 dX1_isPerson_0 rfl rfl ?_
  refine v_if_lt 16 dX1_isPerson_1 rfl (fun h1 => ?_) (fun h1 => ?_)
  · skip
    refine v_iconst (nI 0) dX1_isPerson_16 (by decide +kernel) ?_
    refine v_zret rfl (by decide +kernel) dX1_isPerson_17 ⟨congrArg (fun z => some (Value.int z)) ?_, congrArg (φ shp) ?_⟩
    · first | exact bi_nf (fun q9 => absurd ((Rg_lt (by omega) x).mpr q9).1 (Int32.not_le.mpr h1)) | exact bi_nf (fun q9 => absurd ((Rg_lt (by omega) x).mpr q9).2 (Int32.not_lt.mpr h9))
    · rfl
  · skip
    refine v_iload_n 1 dX1_isPerson_4 rfl rfl ?_
    refine v_aload_n 0 dX1_isPerson_5 rfl rfl ?_
    refine h_geti (g := c) (k := 1) (c 2) hH rfl (hF1 _) inX1_isPerson_X1 (by decide) (by decide +kernel) rfl dX1_isPerson_6 ?_
    refine v_topi (nI m) (hm) ?_
    refine v_icmp_ge 16 dX1_isPerson_9 rfl (fun h9 => ?_) (fun h9 => ?_)
    · skip
      refine v_iconst (nI 0) dX1_isPerson_16 (by decide +kernel) ?_
      refine v_zret rfl (by decide +kernel) dX1_isPerson_17 ⟨congrArg (fun z => some (Value.int z)) ?_, congrArg (φ shp) ?_⟩
      · first | exact bi_nf (fun q9 => absurd ((Rg_lt (by omega) x).mpr q9).1 (Int32.not_le.mpr h1)) | exact bi_nf (fun q9 => absurd ((Rg_lt (by omega) x).mpr q9).2 (Int32.not_lt.mpr h9))
      · rfl
    · skip
      refine v_iconst (nI 1) dX1_isPerson_12 (by decide +kernel) ?_
      refine v_goto 17 dX1_isPerson_13 rfl ?_
      refine v_zret rfl (by decide +kernel) dX1_isPerson_17 ⟨congrArg (fun z => some (Value.int z)) ?_, congrArg (φ shp) ?_⟩
      · exact bi_nt ((Rg_lt (by omega) x).mp ⟨Int32.not_lt.mp h1, Int32.not_le.mp h9⟩)
      · rfl
set_option maxRecDepth 100000 in
theorem inX1_hasAllLines_X1 : ∀ w ∈ wsX10, w ∈ wsX1_hasAllLines := by decide +kernel
set_option maxHeartbeats 4000000 in
set_option maxRecDepth 100000 in
/-- Hall.hasAllLines -/
theorem c_X1_hasAllLines (lu : Launch) (Dg : va_G) (E : Nat → ClassId) (N : Nat) (G : Nat → Nat) (shp : Nat → (Nat → Int32) → va_E) (σ : Nat → Nat → Int32) {b : Nat} (hH : HallS E G shp N b) (c : Nat → Int32) {m : Nat} (hm : c 1 = nI m) (hm2 : m < 2 ^ 31)  : CS lu yX1_hasAllLines wsX1_hasAllLines { frames := 0, cells := 0, slots := 0, locals := 0 } Dg E N G shp (hs σ b c) [.ref (G b)] (some (.int (bi (3 ≤ m)))) (hs σ b c) := by
  refine CS.of (cc := cX1_hasAllLines) (maxL := 1) (ret := (some .boolean)) (by decide) rfl (Nat.le_of_ble_eq_true rfl) ?_
  intro p_ e_ s_ m_ args_ below_ meth_ c_
  refine v_eq (pc' := 0) (st' := []) rfl rfl ?_
  refine v_loc [0] [(0, .ref (G b))] rfl ?_
  refine v_aload_n 0 dX1_hasAllLines_0 rfl rfl ?_
  refine h_geti (g := c) (k := 0) (c 1) hH rfl (hF0 _) inX1_hasAllLines_X1 (by decide) (by decide +kernel) rfl dX1_hasAllLines_1 ?_
  refine v_topi (nI m) (hm) ?_
  refine v_iconst (nI 3) dX1_hasAllLines_4 (by decide +kernel) ?_
  refine v_icmp_ltN 12 (by omega) (by omega) dX1_hasAllLines_5 rfl (fun h5 => ?_) (fun h5 => ?_)
  · skip
    refine v_iconst (nI 0) dX1_hasAllLines_12 (by decide +kernel) ?_
    refine v_zret rfl (by decide +kernel) dX1_hasAllLines_13 ⟨congrArg (fun z => some (Value.int z)) ?_, congrArg (φ shp) ?_⟩
    · exact bi_nf (by omega)
    · rfl
  · skip
    refine v_iconst (nI 1) dX1_hasAllLines_8 (by decide +kernel) ?_
    refine v_goto 13 dX1_hasAllLines_9 rfl ?_
    refine v_zret rfl (by decide +kernel) dX1_hasAllLines_13 ⟨congrArg (fun z => some (Value.int z)) ?_, congrArg (φ shp) ?_⟩
    · exact bi_nt (by omega)
    · rfl
set_option maxRecDepth 100000 in
theorem inX1_lineOf_X1 : ∀ w ∈ wsX10, w ∈ wsX1_lineOf := by decide +kernel
set_option maxHeartbeats 4000000 in
set_option maxRecDepth 100000 in
/-- Hall.lineOf -/
theorem c_X1_lineOf (lu : Launch) (Dg : va_G) (E : Nat → ClassId) (N : Nat) (G : Nat → Nat) (shp : Nat → (Nat → Int32) → va_E) (σ : Nat → Nat → Int32) {b : Nat} (hH : HallS E G shp N b) (c : Nat → Int32) {k : Nat} (hk : k < 3)  : CS lu yX1_lineOf wsX1_lineOf { frames := 0, cells := 0, slots := 0, locals := 0 } Dg E N G shp (hs σ b c) [.ref (G b), .int (nI k)] (some (.ref (G (b + 7 + 2 * k)))) (hs σ b c) := by
  refine CS.of (cc := cX1_lineOf) (maxL := 2) (ret := (some (.object "StoodMinutes$Line"))) (by decide) rfl (Nat.le_of_ble_eq_true rfl) ?_
  intro p_ e_ s_ m_ args_ below_ meth_ c_
  refine v_eq (pc' := 0) (st' := []) rfl rfl ?_
  refine v_loc [0, 1] [(0, .ref (G b)), (1, .int (nI k))] rfl ?_
  refine v_iload_n 1 dX1_lineOf_0 rfl rfl ?_
  refine v_if_ltN (by omega) dX1_lineOf_1 ⟨22, rfl⟩ ?_
  refine v_iload_n 1 dX1_lineOf_4 rfl rfl ?_
  refine v_aload_n 0 dX1_lineOf_5 rfl rfl ?_
  refine u_getr (k := 7) (C := RX1) (T := TX1) (NF := 11) hH.n hH.s rfl rfl inX1_lineOf_X1 (by decide) (by decide +kernel) rfl dX1_lineOf_6 ?_
  refine u_alenR 4 hH.n2 hH.s2 rfl dX1_lineOf_9 ?_
  refine v_icmp_geN 22 (by omega) (by omega) dX1_lineOf_10 rfl (fun h10 => ?_) (fun h10 => ?_)
  · skip
    omega
  · skip
    refine v_aload_n 0 dX1_lineOf_13 rfl rfl ?_
    refine u_getr (k := 7) (C := RX1) (T := TX1) (NF := 11) hH.n hH.s rfl rfl inX1_lineOf_X1 (by decide) (by decide +kernel) rfl dX1_lineOf_14 ?_
    refine v_iload_n 1 dX1_lineOf_17 rfl rfl ?_
    refine u_aald 4 k hH.n2 hH.s2 rfl (rfl) (by omega) (by decide) dX1_lineOf_18 ?_
    refine v_goto 26 dX1_lineOf_19 rfl ?_
    refine v_aret rfl dX1_lineOf_26 ⟨rfl, congrArg (φ shp) ?_⟩
    · rfl
set_option maxRecDepth 100000 in
theorem inX1_personOf_X1 : ∀ w ∈ wsX10, w ∈ wsX1_personOf := by decide +kernel
set_option maxHeartbeats 4000000 in
set_option maxRecDepth 100000 in
/-- Hall.personOf -/
theorem c_X1_personOf (lu : Launch) (Dg : va_G) (E : Nat → ClassId) (N : Nat) (G : Nat → Nat) (shp : Nat → (Nat → Int32) → va_E) (σ : Nat → Nat → Int32) {b : Nat} (hH : HallS E G shp N b) (c : Nat → Int32) {k : Nat} (hk : k < 30)  : CS lu yX1_personOf wsX1_personOf { frames := 0, cells := 0, slots := 0, locals := 0 } Dg E N G shp (hs σ b c) [.ref (G b), .int (nI k)] (some (.ref (G (b + 13 + k)))) (hs σ b c) := by
  refine CS.of (cc := cX1_personOf) (maxL := 2) (ret := (some (.object "StoodMinutes$Person"))) (by decide) rfl (Nat.le_of_ble_eq_true rfl) ?_
  intro p_ e_ s_ m_ args_ below_ meth_ c_
  refine v_eq (pc' := 0) (st' := []) rfl rfl ?_
  refine v_loc [0, 1] [(0, .ref (G b)), (1, .int (nI k))] rfl ?_
  refine v_iload_n 1 dX1_personOf_0 rfl rfl ?_
  refine v_if_ltN (by omega) dX1_personOf_1 ⟨22, rfl⟩ ?_
  refine v_iload_n 1 dX1_personOf_4 rfl rfl ?_
  refine v_aload_n 0 dX1_personOf_5 rfl rfl ?_
  refine u_getr (k := 8) (C := RX1) (T := TX1) (NF := 11) hH.n hH.s rfl rfl inX1_personOf_X1 (by decide) (by decide +kernel) rfl dX1_personOf_6 ?_
  refine u_alenR 5 hH.n3 hH.s3 rfl dX1_personOf_9 ?_
  refine v_icmp_geN 22 (by omega) (by omega) dX1_personOf_10 rfl (fun h10 => ?_) (fun h10 => ?_)
  · skip
    omega
  · skip
    refine v_aload_n 0 dX1_personOf_13 rfl rfl ?_
    refine u_getr (k := 8) (C := RX1) (T := TX1) (NF := 11) hH.n hH.s rfl rfl inX1_personOf_X1 (by decide) (by decide +kernel) rfl dX1_personOf_14 ?_
    refine v_iload_n 1 dX1_personOf_17 rfl rfl ?_
    refine u_aald 5 k hH.n3 hH.s3 rfl (rfl) (by omega) (by decide) dX1_personOf_18 ?_
    refine v_goto 26 dX1_personOf_19 rfl ?_
    refine v_aret rfl dX1_personOf_26 ⟨rfl, congrArg (φ shp) ?_⟩
    · rfl
set_option maxHeartbeats 4000000 in
set_option maxRecDepth 100000 in
/-- Hall.lineOf(NONE) -/
theorem c_X1_lineOf_n (lu : Launch) (Dg : va_G) (E : Nat → ClassId) (N : Nat) (G : Nat → Nat) (shp : Nat → (Nat → Int32) → va_E) (σ : Nat → Nat → Int32) {b : Nat} (hH : HallS E G shp N b) (c : Nat → Int32)   : CS lu yX1_lineOf wsX1_lineOf { frames := 0, cells := 0, slots := 0, locals := 0 } Dg E N G shp (hs σ b c) [.ref (G b), .int ((-1))] (some (.ref (G (b + 4)))) (hs σ b c) := by
  refine CS.of (cc := cX1_lineOf) (maxL := 2) (ret := (some (.object "StoodMinutes$Line"))) (by decide) rfl (Nat.le_of_ble_eq_true rfl) ?_
  intro p_ e_ s_ m_ args_ below_ meth_ c_
  refine v_eq (pc' := 0) (st' := []) rfl rfl ?_
  refine v_loc [0, 1] [(0, .ref (G b)), (1, .int ((-1)))] rfl ?_
  refine v_iload_n 1 dX1_lineOf_0 rfl rfl ?_
  refine v_if_lt 22 dX1_lineOf_1 rfl (fun h1 => ?_) (fun h1 => ?_)
  · skip
    refine v_aload_n 0 dX1_lineOf_22 rfl rfl ?_
    refine u_getr (k := 9) (C := RX1) (T := TX1) (NF := 11) hH.n hH.s rfl rfl inX1_lineOf_X1 (by decide) (by decide +kernel) rfl dX1_lineOf_23 ?_
    refine v_aret rfl dX1_lineOf_26 ⟨rfl, congrArg (φ shp) ?_⟩
    · rfl
  · skip
    exact absurd (by decide +kernel) h1
set_option maxRecDepth 100000 in
theorem inX1_stands_X4 : ∀ w ∈ wsX40, w ∈ wsX1_stands := by decide +kernel
set_option maxHeartbeats 4000000 in
set_option maxRecDepth 100000 in
/-- Hall.stands -/
theorem c_X1_stands (lu : Launch) (Dg : va_G) (E : Nat → ClassId) (N : Nat) (G : Nat → Nat) (shp : Nat → (Nat → Int32) → va_E) (σ : Nat → Nat → Int32) {b : Nat} (hH : HallS E G shp N b) (c : Nat → Int32) {m : Nat} (hm : c 2 = nI m) (hm2 : m ≤ 30) {p : Nat} (hp : p < 2 ^ 31)  : CS lu yX1_stands wsX1_stands { frames := 1, cells := 0, slots := 0, locals := 21 } Dg E N G shp (hs σ b c) [.ref (G b), .int (nI p)] (some (.int (bi (p < m ∧ c (58 + 10 * p + 5) = 0)))) (hs σ b c) := by
  refine CS.of (cc := cX1_stands) (maxL := 2) (ret := (some .boolean)) (by decide) rfl (Nat.le_of_ble_eq_true rfl) ?_
  intro p_ e_ s_ m_ args_ below_ meth_ c_
  refine v_eq (pc' := 0) (st' := []) rfl rfl ?_
  refine v_loc [0, 1] [(0, .ref (G b)), (1, .int (nI p))] rfl ?_
  refine v_aload_n 0 dX1_stands_0 rfl rfl ?_
  refine v_iload_n 1 dX1_stands_1 rfl rfl ?_
  refine u_callVv [.int (nI p)] [] 1 (c_X1_isPerson lu Dg E N G shp σ hH c hm (by omega) (nI p)) (ci := 1) (C := RX1) (T := TX1) (NF := 11) hH.n hH.s rfl gX1_stands_X1_isPerson rfl rfl rfl (by decide +kernel) rfl ⟨Nat.le_of_ble_eq_true rfl, Nat.le_of_ble_eq_true rfl⟩ ⟨Nat.le_of_ble_eq_true rfl, Nat.le_of_ble_eq_true rfl⟩ (Nat.le_of_ble_eq_true rfl) rfl dX1_stands_2 ?_
  refine v_if_eqB 23 dX1_stands_5 rfl (fun h5 => ?_) (fun h5 => ?_)
  · skip
    refine v_iconst (nI 0) dX1_stands_23 (by decide +kernel) ?_
    refine v_zret rfl (by decide +kernel) dX1_stands_24 ⟨congrArg (fun z => some (Value.int z)) ?_, congrArg (φ shp) ?_⟩
    · first | exact bi_nf (fun q9 => h5 ((Rg_nI (by omega) (by omega)).mpr q9.1)) | exact bi_nf (fun q9 => h16 q9.2)
    · rfl
  · skip
    have hpm := (Rg_nI (by omega) (by omega)).mp h5
    refine v_aload_n 0 dX1_stands_8 rfl rfl ?_
    refine v_iload_n 1 dX1_stands_9 rfl rfl ?_
    refine u_callVv [.int (nI p)] [] 1 (c_X1_personOf lu Dg E N G shp σ hH c (k := p) (by omega)) (ci := 1) (C := RX1) (T := TX1) (NF := 11) hH.n hH.s rfl gX1_stands_X1_personOf rfl rfl rfl (by decide +kernel) rfl ⟨Nat.le_of_ble_eq_true rfl, Nat.le_of_ble_eq_true rfl⟩ ⟨Nat.le_of_ble_eq_true rfl, Nat.le_of_ble_eq_true rfl⟩ (Nat.le_of_ble_eq_true rfl) rfl dX1_stands_10 ?_
    refine p_geti (g := c) (k := 2) (q := p) (by omega) (c (58 + 10 * p + 5)) hH rfl (pF2 _ _) inX1_stands_X4 (by decide) (by decide +kernel) rfl dX1_stands_13 ?_
    refine v_if_ne 23 dX1_stands_16 rfl (fun h16 => ?_) (fun h16 => ?_)
    · skip
      refine v_iconst (nI 0) dX1_stands_23 (by decide +kernel) ?_
      refine v_zret rfl (by decide +kernel) dX1_stands_24 ⟨congrArg (fun z => some (Value.int z)) ?_, congrArg (φ shp) ?_⟩
      · first | exact bi_nf (fun q9 => h5 ((Rg_nI (by omega) (by omega)).mpr q9.1)) | exact bi_nf (fun q9 => h16 q9.2)
      · rfl
    · skip
      refine v_iconst (nI 1) dX1_stands_19 (by decide +kernel) ?_
      refine v_goto 24 dX1_stands_20 rfl ?_
      refine v_zret rfl (by decide +kernel) dX1_stands_24 ⟨congrArg (fun z => some (Value.int z)) ?_, congrArg (φ shp) ?_⟩
      · exact bi_nt ⟨(Rg_nI (by omega) (by omega)).mp h5, h16⟩
      · rfl
set_option maxRecDepth 100000 in
theorem inX1_settingOf_X1 : ∀ w ∈ wsX10, w ∈ wsX1_settingOf := by decide +kernel
set_option maxHeartbeats 4000000 in
set_option maxRecDepth 100000 in
/-- Hall.settingOf -/
theorem c_X1_settingOf (lu : Launch) (Dg : va_G) (E : Nat → ClassId) (N : Nat) (G : Nat → Nat) (shp : Nat → (Nat → Int32) → va_E) (σ : Nat → Nat → Int32) {b : Nat} (hH : HallS E G shp N b) (c : Nat → Int32) {k : Nat} (hk : k < 4)  : CS lu yX1_settingOf wsX1_settingOf { frames := 0, cells := 0, slots := 0, locals := 0 } Dg E N G shp (hs σ b c) [.ref (G b), .int (nI k)] (some (.int (c (6 + k)))) (hs σ b c) := by
  refine CS.of (cc := cX1_settingOf) (maxL := 2) (ret := (some .int)) (by decide) rfl (Nat.le_of_ble_eq_true rfl) ?_
  intro p_ e_ s_ m_ args_ below_ meth_ c_
  refine v_eq (pc' := 0) (st' := []) rfl rfl ?_
  refine v_loc [0, 1] [(0, .ref (G b)), (1, .int (nI k))] rfl ?_
  refine v_iload_n 1 dX1_settingOf_0 rfl rfl ?_
  refine v_if_ltN (by omega) dX1_settingOf_1 ⟨22, rfl⟩ ?_
  refine v_iload_n 1 dX1_settingOf_4 rfl rfl ?_
  refine v_aload_n 0 dX1_settingOf_5 rfl rfl ?_
  refine u_getr (k := 6) (C := RX1) (T := TX1) (NF := 11) hH.n hH.s rfl rfl inX1_settingOf_X1 (by decide) (by decide +kernel) rfl dX1_settingOf_6 ?_
  refine u_alenI 0 hH.n1 hH.s1 rfl dX1_settingOf_9 ?_
  refine v_icmp_geN 22 (by omega) (by omega) dX1_settingOf_10 rfl (fun h10 => ?_) (fun h10 => ?_)
  · skip
    omega
  · skip
    refine v_aload_n 0 dX1_settingOf_13 rfl rfl ?_
    refine u_getr (k := 6) (C := RX1) (T := TX1) (NF := 11) hH.n hH.s rfl rfl inX1_settingOf_X1 (by decide) (by decide +kernel) rfl dX1_settingOf_14 ?_
    refine v_iload_n 1 dX1_settingOf_17 rfl rfl ?_
    refine s_ld k hH (rfl) (by omega) dX1_settingOf_18 ?_
    refine v_goto 23 dX1_settingOf_19 rfl ?_
    refine v_iret rfl dX1_settingOf_23 ⟨congrArg (fun z => some (Value.int z)) ?_, congrArg (φ shp) ?_⟩
    · rfl
    · rfl
set_option maxRecDepth 100000 in
theorem inX1_priceOf_X1 : ∀ w ∈ wsX10, w ∈ wsX1_priceOf := by decide +kernel
set_option maxHeartbeats 4000000 in
set_option maxRecDepth 100000 in
/-- Hall.priceOf -/
theorem c_X1_priceOf (lu : Launch) (Dg : va_G) (E : Nat → ClassId) (N : Nat) (G : Nat → Nat) (shp : Nat → (Nat → Int32) → va_E) (σ : Nat → Nat → Int32) {b : Nat} (hH : HallS E G shp N b) (c : Nat → Int32) (k : Nat)  : CS lu yX1_priceOf wsX1_priceOf { frames := 0, cells := 0, slots := 0, locals := 0 } Dg E N G shp (hs σ b c) [.ref (G b), .int (nI k)] (some (.int (c 8 * nI k))) (hs σ b c) := by
  refine CS.of (cc := cX1_priceOf) (maxL := 2) (ret := (some .int)) (by decide) rfl (Nat.le_of_ble_eq_true rfl) ?_
  intro p_ e_ s_ m_ args_ below_ meth_ c_
  refine v_eq (pc' := 0) (st' := []) rfl rfl ?_
  refine v_loc [0, 1] [(0, .ref (G b)), (1, .int (nI k))] rfl ?_
  refine v_aload_n 0 dX1_priceOf_0 rfl rfl ?_
  refine u_getr (k := 6) (C := RX1) (T := TX1) (NF := 11) hH.n hH.s rfl rfl inX1_priceOf_X1 (by decide) (by decide +kernel) rfl dX1_priceOf_1 ?_
  refine v_iconst (nI 2) dX1_priceOf_4 (by decide +kernel) ?_
  refine s_ld 2 hH (rfl) (by omega) dX1_priceOf_5 ?_
  refine v_iload_n 1 dX1_priceOf_6 rfl rfl ?_
  refine v_imul dX1_priceOf_7 ?_
  refine v_iret rfl dX1_priceOf_8 ⟨congrArg (fun z => some (Value.int z)) ?_, congrArg (φ shp) ?_⟩
  · rfl
  · rfl
