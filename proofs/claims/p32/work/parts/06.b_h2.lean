set_option maxHeartbeats 4000000 in
set_option maxRecDepth 100000 in
/-- isKind -/
theorem c_X5_isKind (lu : Launch) (Dg : va_G) (E : Nat → ClassId) (N : Nat) (G : Nat → Nat) (shp : Nat → (Nat → Int32) → va_E) (σ : Nat → Nat → Int32)  (x : Int32)  : CS lu yX5_isKind wsX5_isKind { frames := 0, cells := 0, slots := 0, locals := 0 } Dg E N G shp σ [.int x] (some (.int (bi (Rg 3 x)))) σ := by
  refine CS.of (cc := cX5_isKind) (maxL := 1) (ret := (some .boolean)) (by decide) rfl (Nat.le_of_ble_eq_true rfl) ?_
  intro p_ e_ s_ m_ args_ below_ meth_ c_
  refine v_eq (pc' := 0) (st' := []) rfl rfl ?_
  refine v_loc [0] [(0, .int x)] rfl ?_
  refine v_iload_n 0 dX5_isKind_0 rfl rfl ?_
  refine v_if_lt 13 dX5_isKind_1 rfl (fun h1 => ?_) (fun h1 => ?_)
  · skip
    refine v_iconst (nI 0) dX5_isKind_13 (by decide +kernel) ?_
    refine v_zret rfl (by decide +kernel) dX5_isKind_14 ⟨congrArg (fun z => some (Value.int z)) ?_, congrArg (φ shp) ?_⟩
    · first | exact bi_nf (fun q9 => absurd (nI_z ▸ ((Rg_le (n := 2) (by omega) x).mpr q9).1) (Int32.not_le.mpr h1)) | exact bi_nf (fun q9 => absurd ((Rg_le (n := 2) (by omega) x).mpr q9).2 (Int32.not_le.mpr h6))
    · rfl
  · skip
    refine v_iload_n 0 dX5_isKind_4 rfl rfl ?_
    refine v_iconst (nI 2) dX5_isKind_5 (by decide +kernel) ?_
    refine v_icmp_gt 13 dX5_isKind_6 rfl (fun h6 => ?_) (fun h6 => ?_)
    · skip
      refine v_iconst (nI 0) dX5_isKind_13 (by decide +kernel) ?_
      refine v_zret rfl (by decide +kernel) dX5_isKind_14 ⟨congrArg (fun z => some (Value.int z)) ?_, congrArg (φ shp) ?_⟩
      · first | exact bi_nf (fun q9 => absurd (nI_z ▸ ((Rg_le (n := 2) (by omega) x).mpr q9).1) (Int32.not_le.mpr h1)) | exact bi_nf (fun q9 => absurd ((Rg_le (n := 2) (by omega) x).mpr q9).2 (Int32.not_le.mpr h6))
      · rfl
    · skip
      refine v_iconst (nI 1) dX5_isKind_9 (by decide +kernel) ?_
      refine v_goto 14 dX5_isKind_10 rfl ?_
      refine v_zret rfl (by decide +kernel) dX5_isKind_14 ⟨congrArg (fun z => some (Value.int z)) ?_, congrArg (φ shp) ?_⟩
      · exact bi_nt ((Rg_le (n := 2) (by omega) x).mp ⟨by rw [nI_z]; exact Int32.not_lt.mp h1, Int32.not_lt.mp h6⟩)
      · rfl
set_option maxRecDepth 100000 in
theorem inX1_placeOf_X4 : ∀ w ∈ wsX40, w ∈ wsX1_placeOf := by decide +kernel
set_option maxHeartbeats 4000000 in
set_option maxRecDepth 100000 in
/-- Hall.placeOf, of one who stands -/
theorem c_X1_placeOf (lu : Launch) (Dg : va_G) (E : Nat → ClassId) (N : Nat) (G : Nat → Nat) (shp : Nat → (Nat → Int32) → va_E) (σ : Nat → Nat → Int32) {b : Nat} (hH : HallS E G shp N b) (c : Nat → Int32) {T : Nat} (hI : Inv T c) {p : Nat} (hp : p < tn (c 2)) (hsd : c (58 + 10 * p + 5) = 0)  : CS lu yX1_placeOf wsX1_placeOf { frames := 1, cells := 0, slots := 0, locals := 22 } Dg E N G shp (hs σ b c) [.ref (G b), .int (nI p)] (some (.int (nI (plc c p)))) (hs σ b c) := by
  refine CS.of (cc := cX1_placeOf) (maxL := 2) (ret := (some .int)) (by decide) rfl (Nat.le_of_ble_eq_true rfl) ?_
  intro p_ e_ s_ m_ args_ below_ meth_ c_
  refine v_eq (pc' := 0) (st' := []) rfl rfl ?_
  refine v_loc [0, 1] [(0, .ref (G b)), (1, .int (nI p))] rfl ?_
  have hp30 := Nat.lt_of_lt_of_le hp hI.np30
  have hq := hI.plcs hp hsd
  have hl3 := Nat.lt_of_lt_of_le hq.1 hI.nl3
  refine v_aload_n 0 dX1_placeOf_0 rfl rfl ?_
  refine v_aload_n 0 dX1_placeOf_1 rfl rfl ?_
  refine v_iload_n 1 dX1_placeOf_2 rfl rfl ?_
  refine u_callVv [.int (nI p)] [.ref (G b)] 1 (c_X1_personOf lu Dg E N G shp σ hH c (k := p) (by omega)) (ci := 1) (C := RX1) (T := TX1) (NF := 11) hH.n hH.s rfl gX1_placeOf_X1_personOf rfl rfl rfl (by decide +kernel) rfl ⟨Nat.le_of_ble_eq_true rfl, Nat.le_of_ble_eq_true rfl⟩ ⟨Nat.le_of_ble_eq_true rfl, Nat.le_of_ble_eq_true rfl⟩ (Nat.le_of_ble_eq_true rfl) rfl dX1_placeOf_3 ?_
  refine p_geti (g := c) (k := 1) (q := p) (by omega) (c (58 + 10 * p + 1)) hH rfl (pF1 _ _) inX1_placeOf_X4 (by decide) (by decide +kernel) rfl dX1_placeOf_6 ?_
  refine v_topi (nI (liN c p)) (hq.2.1) ?_
  refine u_callVv [.int (nI (liN c p))] [] 1 (c_X1_lineOf lu Dg E N G shp σ hH c (k := liN c p) (by omega)) (ci := 1) (C := RX1) (T := TX1) (NF := 11) hH.n hH.s rfl gX1_placeOf_X1_lineOf rfl rfl rfl (by decide +kernel) rfl ⟨Nat.le_of_ble_eq_true rfl, Nat.le_of_ble_eq_true rfl⟩ ⟨Nat.le_of_ble_eq_true rfl, Nat.le_of_ble_eq_true rfl⟩ (Nat.le_of_ble_eq_true rfl) rfl dX1_placeOf_9 ?_
  refine v_iload_n 1 dX1_placeOf_12 rfl rfl ?_
  refine u_callVv [.int (nI p)] [] 1 ((c_X3_placeOf lu Dg E N G shp σ hH c (l := liN c p) hl3 (hI.len hq.1) (hI.len12 hq.1) (nI p)).to (v' := some (.int (nI (plc c p)))) (congrArg (fun z => some (Value.int z)) (hI.plG hp hsd)) rfl) (ci := 3) (C := RX3) (T := TX3) (NF := 5) (hH.li (l := liN c p) (by omega)).n (hH.li (l := liN c p) (by omega)).2.1 rfl gX1_placeOf_X3_placeOf rfl rfl rfl (by decide +kernel) rfl ⟨Nat.le_of_ble_eq_true rfl, Nat.le_of_ble_eq_true rfl⟩ ⟨Nat.le_of_ble_eq_true rfl, Nat.le_of_ble_eq_true rfl⟩ (Nat.le_of_ble_eq_true rfl) rfl dX1_placeOf_13 ?_
  refine v_iret rfl dX1_placeOf_16 ⟨congrArg (fun z => some (Value.int z)) ?_, congrArg (φ shp) ?_⟩
  · rfl
  · rfl
set_option maxHeartbeats 4000000 in
set_option maxRecDepth 100000 in
/-- Hall.placeOf, of one who stands nowhere -/
theorem c_X1_placeOf_n (lu : Launch) (Dg : va_G) (E : Nat → ClassId) (N : Nat) (G : Nat → Nat) (shp : Nat → (Nat → Int32) → va_E) (σ : Nat → Nat → Int32) {b : Nat} (hH : HallS E G shp N b) (c : Nat → Int32) {T : Nat} (hI : Inv T c) (hnl : σ (b + 4) 3 = nI 0) {p : Nat} (hp : p < tn (c 2)) (hsd : ¬ c (58 + 10 * p + 5) = 0)  : CS lu yX1_placeOf wsX1_placeOf { frames := 1, cells := 0, slots := 0, locals := 22 } Dg E N G shp (hs σ b c) [.ref (G b), .int (nI p)] (some (.int ((-1)))) (hs σ b c) := by
  refine CS.of (cc := cX1_placeOf) (maxL := 2) (ret := (some .int)) (by decide) rfl (Nat.le_of_ble_eq_true rfl) ?_
  intro p_ e_ s_ m_ args_ below_ meth_ c_
  refine v_eq (pc' := 0) (st' := []) rfl rfl ?_
  refine v_loc [0, 1] [(0, .ref (G b)), (1, .int (nI p))] rfl ?_
  have hp30 := Nat.lt_of_lt_of_le hp hI.np30
  refine v_aload_n 0 dX1_placeOf_0 rfl rfl ?_
  refine v_aload_n 0 dX1_placeOf_1 rfl rfl ?_
  refine v_iload_n 1 dX1_placeOf_2 rfl rfl ?_
  refine u_callVv [.int (nI p)] [.ref (G b)] 1 (c_X1_personOf lu Dg E N G shp σ hH c (k := p) (by omega)) (ci := 1) (C := RX1) (T := TX1) (NF := 11) hH.n hH.s rfl gX1_placeOf_X1_personOf rfl rfl rfl (by decide +kernel) rfl ⟨Nat.le_of_ble_eq_true rfl, Nat.le_of_ble_eq_true rfl⟩ ⟨Nat.le_of_ble_eq_true rfl, Nat.le_of_ble_eq_true rfl⟩ (Nat.le_of_ble_eq_true rfl) rfl dX1_placeOf_3 ?_
  refine p_geti (g := c) (k := 1) (q := p) (by omega) (c (58 + 10 * p + 1)) hH rfl (pF1 _ _) inX1_placeOf_X4 (by decide) (by decide +kernel) rfl dX1_placeOf_6 ?_
  refine v_topi ((-1)) (hI.ns hp hsd) ?_
  refine u_callVv [.int ((-1))] [] 1 (c_X1_lineOf_n lu Dg E N G shp σ hH c) (ci := 1) (C := RX1) (T := TX1) (NF := 11) hH.n hH.s rfl gX1_placeOf_X1_lineOf rfl rfl rfl (by decide +kernel) rfl ⟨Nat.le_of_ble_eq_true rfl, Nat.le_of_ble_eq_true rfl⟩ ⟨Nat.le_of_ble_eq_true rfl, Nat.le_of_ble_eq_true rfl⟩ (Nat.le_of_ble_eq_true rfl) rfl dX1_placeOf_9 ?_
  refine v_iload_n 1 dX1_placeOf_12 rfl rfl ?_
  refine u_callVv [.int (nI p)] [] 1 (c_X3_placeOf_e lu Dg E N G shp (hs σ b c) hH.nl (by rw [hs_out (by omega)]; exact hnl) (nI p)) (ci := 3) (C := RX3) (T := TX3) (NF := 5) hH.nl.n hH.nl.2.1 rfl gX1_placeOf_X3_placeOf rfl rfl rfl (by decide +kernel) rfl ⟨Nat.le_of_ble_eq_true rfl, Nat.le_of_ble_eq_true rfl⟩ ⟨Nat.le_of_ble_eq_true rfl, Nat.le_of_ble_eq_true rfl⟩ (Nat.le_of_ble_eq_true rfl) rfl dX1_placeOf_13 ?_
  refine v_iret rfl dX1_placeOf_16 ⟨congrArg (fun z => some (Value.int z)) ?_, congrArg (φ shp) ?_⟩
  · rfl
  · rfl
set_option maxRecDepth 100000 in
theorem inX1_count_X1 : ∀ w ∈ wsX10, w ∈ wsX1_count := by decide +kernel
set_option maxRecDepth 100000 in
theorem inX1_count_X4 : ∀ w ∈ wsX40, w ∈ wsX1_count := by decide +kernel
set_option maxHeartbeats 4000000 in
set_option maxRecDepth 100000 in
/-- Hall.count -/
theorem c_X1_count (lu : Launch) (Dg : va_G) (E : Nat → ClassId) (N : Nat) (G : Nat → Nat) (shp : Nat → (Nat → Int32) → va_E) (σ : Nat → Nat → Int32) {b : Nat} (hH : HallS E G shp N b) (c : Nat → Int32) {T : Nat} (hI : Inv T c) (x : Int32)  : CS lu yX1_count wsX1_count { frames := 1, cells := 0, slots := 0, locals := 21 } Dg E N G shp (hs σ b c) [.ref (G b), .int x] (some (.int (nI (standN c x (tn (c 2)))))) (hs σ b c) := by
  refine CS.of (cc := cX1_count) (maxL := 4) (ret := (some .int)) (by decide) rfl (Nat.le_of_ble_eq_true rfl) ?_
  intro p_ e_ s_ m_ args_ below_ meth_ c_
  refine v_eq (pc' := 0) (st' := []) rfl rfl ?_
  refine v_loc [0, 1] [(0, .ref (G b)), (1, .int x)] rfl ?_
  refine v_iconst (nI 0) dX1_count_0 (by decide +kernel) ?_
  refine v_istore_n [(2, .int (nI 0)), (0, .ref (G b)), (1, .int x)] dX1_count_1 rfl (by decide) rfl ?_
  refine v_iconst (nI 0) dX1_count_2 (by decide +kernel) ?_
  refine v_istore_n [(3, .int (nI 0)), (2, .int (nI 0)), (0, .ref (G b)), (1, .int x)] dX1_count_3 rfl (by decide) rfl ?_
  refine v_loc [0, 1, 3, 2] [(3, .int (nI 0)), (2, .int (nI 0)), (1, .int x), (0, .ref (G b))] rfl ?_
  refine u_loop1 (fun n (k : Nat) => k + n = tn (c 2)) (fun (k : Nat) => hs σ b c) (fun (k : Nat) => [(3, .int (nI k)), (2, .int (nI (standN c x k))), (1, .int x), (0, .ref (G b))]) (tn (c 2)) 0 ((by omega)) ?_
  intro n k hL ih
  refine v_iload_n 0 dX1_count_4 rfl rfl ?_
  have hnp30 := hI.np30
  refine v_aload_n 3 dX1_count_5 rfl rfl ?_
  refine h_geti (g := c) (k := 1) (c 2) hH rfl (hF1 _) inX1_count_X1 (by decide) (by decide +kernel) rfl dX1_count_6 ?_
  refine v_topi (nI (tn (c 2))) (hI.np) ?_
  refine v_icmp_geN 33 (by omega) (by omega) dX1_count_9 rfl (fun h9 => ?_) (fun h9 => ?_)
  · skip
    refine v_iload_n 1 dX1_count_33 rfl rfl ?_
    refine v_iret rfl dX1_count_34 ⟨congrArg (fun z => some (Value.int z)) ?_, congrArg (φ shp) ?_⟩
    · obtain rfl : k = tn (c 2) := (by omega); rfl
    · rfl
  · skip
    refine v_aload_n 3 dX1_count_12 rfl rfl ?_
    refine v_iload_n 0 dX1_count_13 rfl rfl ?_
    refine u_callVv [.int (nI k)] [] 1 (c_X1_personOf lu Dg E N G shp σ hH c (k := k) (by omega)) (ci := 1) (C := RX1) (T := TX1) (NF := 11) hH.n hH.s rfl gX1_count_X1_personOf rfl rfl rfl (by decide +kernel) rfl ⟨Nat.le_of_ble_eq_true rfl, Nat.le_of_ble_eq_true rfl⟩ ⟨Nat.le_of_ble_eq_true rfl, Nat.le_of_ble_eq_true rfl⟩ (Nat.le_of_ble_eq_true rfl) rfl dX1_count_14 ?_
    refine p_geti (g := c) (k := 2) (q := k) (by omega) (c (58 + 10 * k + 5)) hH rfl (pF2 _ _) inX1_count_X4 (by decide) (by decide +kernel) rfl dX1_count_17 ?_
    refine v_iload_n 2 dX1_count_20 rfl rfl ?_
    refine v_icmp_ne 27 dX1_count_21 rfl (fun h21 => ?_) (fun h21 => ?_)
    · skip
      refine v_locv 2 (nI (standN c x (k + 1))) 1 [(3, .int (nI k)), (2, .int (nI (standN c x (k + 1)))), (1, .int x), (0, .ref (G b))] rfl (congrArg nI (by rw [standN, ic_f h21] <;> rfl)) rfl ?_
      refine v_iincN 0 [(3, .int (nI (k + 1))), (2, .int (nI (standN c x (k + 1)))), (1, .int x), (0, .ref (G b))] dX1_count_27 rfl (by decide) rfl ?_
      refine v_goto 4 dX1_count_30 rfl ?_
      refine v_loc [0, 1, 2, 3] [(3, .int (nI (k + 1))), (2, .int (nI (standN c x (k + 1)))), (1, .int x), (0, .ref (G b))] rfl ?_
      exact ih _ (k + 1) (show n - 1 < n by omega) (by omega)
    · skip
      refine v_iincN 1 [(2, .int (nI (standN c x k + 1))), (3, .int (nI k)), (1, .int x), (0, .ref (G b))] dX1_count_24 rfl (by decide) rfl ?_
      refine v_locv 2 (nI (standN c x (k + 1))) 0 [(2, .int (nI (standN c x (k + 1)))), (3, .int (nI k)), (1, .int x), (0, .ref (G b))] rfl (congrArg nI (by rw [standN, ic_t h21] <;> rfl)) rfl ?_
      refine v_iincN 1 [(3, .int (nI (k + 1))), (2, .int (nI (standN c x (k + 1)))), (1, .int x), (0, .ref (G b))] dX1_count_27 rfl (by decide) rfl ?_
      refine v_goto 4 dX1_count_30 rfl ?_
      refine v_loc [0, 1, 2, 3] [(3, .int (nI (k + 1))), (2, .int (nI (standN c x (k + 1)))), (1, .int x), (0, .ref (G b))] rfl ?_
      exact ih _ (k + 1) (show n - 1 < n by omega) (by omega)
set_option maxRecDepth 100000 in
theorem inX1_sumOfAccounts_X1 : ∀ w ∈ wsX10, w ∈ wsX1_sumOfAccounts := by decide +kernel
set_option maxRecDepth 100000 in
theorem inX1_sumOfAccounts_X4 : ∀ w ∈ wsX40, w ∈ wsX1_sumOfAccounts := by decide +kernel
set_option maxHeartbeats 4000000 in
set_option maxRecDepth 100000 in
/-- Hall.sumOfAccounts -/
theorem c_X1_sumOfAccounts (lu : Launch) (Dg : va_G) (E : Nat → ClassId) (N : Nat) (G : Nat → Nat) (shp : Nat → (Nat → Int32) → va_E) (σ : Nat → Nat → Int32) {b : Nat} (hH : HallS E G shp N b) (c : Nat → Int32) {T : Nat} (hI : Inv T c)  : CS lu yX1_sumOfAccounts wsX1_sumOfAccounts { frames := 1, cells := 0, slots := 0, locals := 21 } Dg E N G shp (hs σ b c) [.ref (G b)] (some (.int (accN c (tn (c 2))))) (hs σ b c) := by
  refine CS.of (cc := cX1_sumOfAccounts) (maxL := 3) (ret := (some .int)) (by decide) rfl (Nat.le_of_ble_eq_true rfl) ?_
  intro p_ e_ s_ m_ args_ below_ meth_ c_
  refine v_eq (pc' := 0) (st' := []) rfl rfl ?_
  refine v_loc [0] [(0, .ref (G b))] rfl ?_
  refine v_iconst (nI 0) dX1_sumOfAccounts_0 (by decide +kernel) ?_
  refine v_istore_n [(1, .int (nI 0)), (0, .ref (G b))] dX1_sumOfAccounts_1 rfl (by decide) rfl ?_
  refine v_iconst (nI 0) dX1_sumOfAccounts_2 (by decide +kernel) ?_
  refine v_istore_n [(2, .int (nI 0)), (1, .int (accN c 0)), (0, .ref (G b))] dX1_sumOfAccounts_3 rfl (by decide) rfl ?_
  refine v_loc [0, 1, 2] [(2, .int (nI 0)), (1, .int (accN c 0)), (0, .ref (G b))] rfl ?_
  refine u_loop1 (fun n (k : Nat) => k + n = tn (c 2)) (fun (k : Nat) => hs σ b c) (fun (k : Nat) => [(2, .int (nI k)), (1, .int (accN c k)), (0, .ref (G b))]) (tn (c 2)) 0 ((by omega)) ?_
  intro n k hL ih
  refine v_iload_n 0 dX1_sumOfAccounts_4 rfl rfl ?_
  have hnp30 := hI.np30
  refine v_aload_n 2 dX1_sumOfAccounts_5 rfl rfl ?_
  refine h_geti (g := c) (k := 1) (c 2) hH rfl (hF1 _) inX1_sumOfAccounts_X1 (by decide) (by decide +kernel) rfl dX1_sumOfAccounts_6 ?_
  refine v_topi (nI (tn (c 2))) (hI.np) ?_
  refine v_icmp_geN 29 (by omega) (by omega) dX1_sumOfAccounts_9 rfl (fun h9 => ?_) (fun h9 => ?_)
  · skip
    refine v_iload_n 1 dX1_sumOfAccounts_29 rfl rfl ?_
    refine v_iret rfl dX1_sumOfAccounts_30 ⟨congrArg (fun z => some (Value.int z)) ?_, congrArg (φ shp) ?_⟩
    · obtain rfl : k = tn (c 2) := (by omega); rfl
    · rfl
  · skip
    refine v_iload_n 1 dX1_sumOfAccounts_12 rfl rfl ?_
    refine v_aload_n 2 dX1_sumOfAccounts_13 rfl rfl ?_
    refine v_iload_n 0 dX1_sumOfAccounts_14 rfl rfl ?_
    refine u_callVv [.int (nI k)] [.int (accN c k)] 1 (c_X1_personOf lu Dg E N G shp σ hH c (k := k) (by omega)) (ci := 1) (C := RX1) (T := TX1) (NF := 11) hH.n hH.s rfl gX1_sumOfAccounts_X1_personOf rfl rfl rfl (by decide +kernel) rfl ⟨Nat.le_of_ble_eq_true rfl, Nat.le_of_ble_eq_true rfl⟩ ⟨Nat.le_of_ble_eq_true rfl, Nat.le_of_ble_eq_true rfl⟩ (Nat.le_of_ble_eq_true rfl) rfl dX1_sumOfAccounts_15 ?_
    refine p_geti (g := c) (k := 4) (q := k) (by omega) (c (58 + 10 * k + 3)) hH rfl (pF4 _ _) inX1_sumOfAccounts_X4 (by decide) (by decide +kernel) rfl dX1_sumOfAccounts_18 ?_
    refine v_iadd dX1_sumOfAccounts_21 ?_
    refine v_topi (accN c (k + 1)) (rfl) ?_
    refine v_istore_n [(1, .int (accN c (k + 1))), (2, .int (nI k)), (0, .ref (G b))] dX1_sumOfAccounts_22 rfl (by decide) rfl ?_
    refine v_iincN 1 [(2, .int (nI (k + 1))), (1, .int (accN c (k + 1))), (0, .ref (G b))] dX1_sumOfAccounts_23 rfl (by decide) rfl ?_
    refine v_goto 4 dX1_sumOfAccounts_26 rfl ?_
    refine v_loc [0, 1, 2] [(2, .int (nI (k + 1))), (1, .int (accN c (k + 1))), (0, .ref (G b))] rfl ?_
    exact ih _ (k + 1) (show n - 1 < n by omega) (by omega)
set_option maxRecDepth 100000 in
theorem inX1_stoodTogether_X3 : ∀ w ∈ wsX30, w ∈ wsX1_stoodTogether := by decide +kernel
set_option maxRecDepth 100000 in
theorem inX1_stoodTogether_X4 : ∀ w ∈ wsX40, w ∈ wsX1_stoodTogether := by decide +kernel
set_option maxHeartbeats 4000000 in
set_option maxRecDepth 100000 in
/-- Hall.stoodTogether -/
theorem c_X1_stoodTogether (lu : Launch) (Dg : va_G) (E : Nat → ClassId) (N : Nat) (G : Nat → Nat) (shp : Nat → (Nat → Int32) → va_E) (σ : Nat → Nat → Int32) {b : Nat} (hH : HallS E G shp N b) (c : Nat → Int32) {T : Nat} (hI : Inv T c) {y : Nat} (hy : y < tn (c 1))  : CS lu yX1_stoodTogether wsX1_stoodTogether { frames := 2, cells := 0, slots := 0, locals := 42 } Dg E N G shp (hs σ b c) [.ref (G b), .ref (G (b + 7 + 2 * y))] (some (.int (stoodN c y (tn (c (13 + y)))))) (hs σ b c) := by
  refine CS.of (cc := cX1_stoodTogether) (maxL := 4) (ret := (some .int)) (by decide) rfl (Nat.le_of_ble_eq_true rfl) ?_
  intro p_ e_ s_ m_ args_ below_ meth_ c_
  refine v_eq (pc' := 0) (st' := []) rfl rfl ?_
  refine v_loc [0, 1] [(0, .ref (G b)), (1, .ref (G (b + 7 + 2 * y)))] rfl ?_
  refine v_iconst (nI 0) dX1_stoodTogether_0 (by decide +kernel) ?_
  refine v_istore_n [(2, .int (nI 0)), (0, .ref (G b)), (1, .ref (G (b + 7 + 2 * y)))] dX1_stoodTogether_1 rfl (by decide) rfl ?_
  refine v_iconst (nI 0) dX1_stoodTogether_2 (by decide +kernel) ?_
  refine v_istore_n [(3, .int (nI 0)), (2, .int (stoodN c y 0)), (0, .ref (G b)), (1, .ref (G (b + 7 + 2 * y)))] dX1_stoodTogether_3 rfl (by decide) rfl ?_
  refine v_loc [0, 1, 3, 2] [(3, .int (nI 0)), (2, .int (stoodN c y 0)), (1, .ref (G (b + 7 + 2 * y))), (0, .ref (G b))] rfl ?_
  refine u_loop1 (fun n (k : Nat) => k + n = tn (c (13 + y))) (fun (k : Nat) => hs σ b c) (fun (k : Nat) => [(3, .int (nI k)), (2, .int (stoodN c y k)), (1, .ref (G (b + 7 + 2 * y))), (0, .ref (G b))]) (tn (c (13 + y))) 0 ((by omega)) ?_
  intro n k hL ih
  refine v_iload_n 0 dX1_stoodTogether_4 rfl rfl ?_
  have h12 := hI.len12 hy
  have hl3 := Nat.lt_of_lt_of_le hy hI.nl3
  refine v_aload_n 2 dX1_stoodTogether_5 rfl rfl ?_
  refine l_geti (g := c) (k := 3) (y := y) (by omega) (c (13 + y)) hH rfl (lF3 _ _) inX1_stoodTogether_X3 (by decide) (by decide +kernel) rfl dX1_stoodTogether_6 ?_
  refine v_topi (nI (tn (c (13 + y)))) (hI.len hy) ?_
  refine v_icmp_geN 33 (by omega) (by omega) dX1_stoodTogether_9 rfl (fun h9 => ?_) (fun h9 => ?_)
  · skip
    refine v_iload_n 1 dX1_stoodTogether_33 rfl rfl ?_
    refine v_iret rfl dX1_stoodTogether_34 ⟨congrArg (fun z => some (Value.int z)) ?_, congrArg (φ shp) ?_⟩
    · obtain rfl : k = tn (c (13 + y)) := (by omega); rfl
    · rfl
  · skip
    have hr := hI.row hy h9
    have hr2 := Nat.lt_of_lt_of_le (hI.rowP hy h9) hI.np30
    refine v_iload_n 1 dX1_stoodTogether_12 rfl rfl ?_
    refine v_aload_n 3 dX1_stoodTogether_13 rfl rfl ?_
    refine v_aload_n 2 dX1_stoodTogether_14 rfl rfl ?_
    refine v_iload_n 0 dX1_stoodTogether_15 rfl rfl ?_
    refine u_callVv [.int (nI k)] [.ref (G b), .int (stoodN c y k)] 1 ((c_X3_who lu Dg E N G shp σ hH c (l := y) (by omega) (hI.len hy) h12 k (by omega)).to (v' := some (.int (nI (tn (c (22 + 12 * y + k)))))) (congrArg (fun z => some (Value.int z)) (by rw [ic_t h9]; exact hr)) rfl) (ci := 3) (C := RX3) (T := TX3) (NF := 5) (hH.li (l := y) (by omega)).n (hH.li (l := y) (by omega)).2.1 rfl gX1_stoodTogether_X3_who rfl rfl rfl (by decide +kernel) rfl ⟨Nat.le_of_ble_eq_true rfl, Nat.le_of_ble_eq_true rfl⟩ ⟨Nat.le_of_ble_eq_true rfl, Nat.le_of_ble_eq_true rfl⟩ (Nat.le_of_ble_eq_true rfl) rfl dX1_stoodTogether_16 ?_
    refine u_callVv [.int (nI (tn (c (22 + 12 * y + k))))] [.int (stoodN c y k)] 1 (c_X1_personOf lu Dg E N G shp σ hH c (k := tn (c (22 + 12 * y + k))) hr2) (ci := 1) (C := RX1) (T := TX1) (NF := 11) hH.n hH.s rfl gX1_stoodTogether_X1_personOf rfl rfl rfl (by decide +kernel) rfl ⟨Nat.le_of_ble_eq_true rfl, Nat.le_of_ble_eq_true rfl⟩ ⟨Nat.le_of_ble_eq_true rfl, Nat.le_of_ble_eq_true rfl⟩ (Nat.le_of_ble_eq_true rfl) rfl dX1_stoodTogether_19 ?_
    refine p_geti (g := c) (k := 3) (q := tn (c (22 + 12 * y + k))) (by omega) (c (58 + 10 * (tn (c (22 + 12 * y + k))) + 2)) hH rfl (pF3 _ _) inX1_stoodTogether_X4 (by decide) (by decide +kernel) rfl dX1_stoodTogether_22 ?_
    refine v_iadd dX1_stoodTogether_25 ?_
    refine v_topi (stoodN c y (k + 1)) (rfl) ?_
    refine v_istore_n [(2, .int (stoodN c y (k + 1))), (3, .int (nI k)), (1, .ref (G (b + 7 + 2 * y))), (0, .ref (G b))] dX1_stoodTogether_26 rfl (by decide) rfl ?_
    refine v_iincN 1 [(3, .int (nI (k + 1))), (2, .int (stoodN c y (k + 1))), (1, .ref (G (b + 7 + 2 * y))), (0, .ref (G b))] dX1_stoodTogether_27 rfl (by decide) rfl ?_
    refine v_goto 4 dX1_stoodTogether_30 rfl ?_
    refine v_loc [0, 1, 2, 3] [(3, .int (nI (k + 1))), (2, .int (stoodN c y (k + 1))), (1, .ref (G (b + 7 + 2 * y))), (0, .ref (G b))] rfl ?_
    exact ih _ (k + 1) (show n - 1 < n by omega) (by omega)
set_option maxRecDepth 100000 in
theorem inX1_addLine_X1 : ∀ w ∈ wsX10, w ∈ wsX1_addLine := by decide +kernel
set_option maxHeartbeats 4000000 in
set_option maxRecDepth 100000 in
/-- Hall.addLine -/
theorem c_X1_addLine (lu : Launch) (Dg : va_G) (E : Nat → ClassId) (N : Nat) (G : Nat → Nat) (shp : Nat → (Nat → Int32) → va_E) (σ : Nat → Nat → Int32) {b : Nat} (hH : HallS E G shp N b) (c : Nat → Int32) {m : Nat} (hm : c 1 = nI m) (hm3 : m < 3) (x : Int32)  : CS lu yX1_addLine wsX1_addLine { frames := 1, cells := 0, slots := 0, locals := 21 } Dg E N G shp (hs σ b c) [.ref (G b), .int x] (some (.int (nI m))) (hs σ b (upd (upd (upd (upd (upd c (10 + m) x) (16 + m) (nI 0)) (19 + m) (nI 0)) (13 + m) (nI 0)) 1 (nI (m + 1)))) := by
  refine CS.of (cc := cX1_addLine) (maxL := 2) (ret := (some .int)) (by decide) rfl (Nat.le_of_ble_eq_true rfl) ?_
  intro p_ e_ s_ m_ args_ below_ meth_ c_
  refine v_eq (pc' := 0) (st' := []) rfl rfl ?_
  refine v_loc [0, 1] [(0, .ref (G b)), (1, .int x)] rfl ?_
  have hm2 : m < 2 ^ 31 := by omega
  refine v_aload_n 0 dX1_addLine_0 rfl rfl ?_
  refine u_callVv [] [] 0 (c_X1_hasAllLines lu Dg E N G shp σ hH c hm hm2) (ci := 1) (C := RX1) (T := TX1) (NF := 11) hH.n hH.s rfl gX1_addLine_X1_hasAllLines rfl rfl rfl (by decide +kernel) rfl ⟨Nat.le_of_ble_eq_true rfl, Nat.le_of_ble_eq_true rfl⟩ ⟨Nat.le_of_ble_eq_true rfl, Nat.le_of_ble_eq_true rfl⟩ (Nat.le_of_ble_eq_true rfl) rfl dX1_addLine_1 ?_
  refine v_if_eqB 9 dX1_addLine_4 rfl (fun h4 => ?_) (fun h4 => ?_)
  · skip
    refine v_aload_n 0 dX1_addLine_9 rfl rfl ?_
    refine v_aload_n 0 dX1_addLine_10 rfl rfl ?_
    refine h_geti (g := c) (k := 0) (c 1) hH rfl (hF0 _) inX1_addLine_X1 (by decide) (by decide +kernel) rfl dX1_addLine_11 ?_
    refine v_topi (nI m) (hm) ?_
    refine u_callVv [.int (nI m)] [] 1 (c_X1_lineOf lu Dg E N G shp σ hH c (k := m) (by omega)) (ci := 1) (C := RX1) (T := TX1) (NF := 11) hH.n hH.s rfl gX1_addLine_X1_lineOf rfl rfl rfl (by decide +kernel) rfl ⟨Nat.le_of_ble_eq_true rfl, Nat.le_of_ble_eq_true rfl⟩ ⟨Nat.le_of_ble_eq_true rfl, Nat.le_of_ble_eq_true rfl⟩ (Nat.le_of_ble_eq_true rfl) rfl dX1_addLine_14 ?_
    refine v_iload_n 1 dX1_addLine_17 rfl rfl ?_
    refine u_callVn [.int x] [] 1 (c_X3_begin lu Dg E N G shp σ hH c (l := m) (by omega) (x)) (ci := 3) (C := RX3) (T := TX3) (NF := 5) (hH.li (l := m) (by omega)).n (hH.li (l := m) (by omega)).2.1 rfl gX1_addLine_X3_begin rfl rfl rfl (by decide +kernel) rfl ⟨Nat.le_of_ble_eq_true rfl, Nat.le_of_ble_eq_true rfl⟩ ⟨Nat.le_of_ble_eq_true rfl, Nat.le_of_ble_eq_true rfl⟩ (Nat.le_of_ble_eq_true rfl) rfl dX1_addLine_18 ?_
    refine v_aload_n 0 dX1_addLine_21 rfl rfl ?_
    refine v_dup dX1_addLine_22 rfl ?_
    generalize hg1 : upd (upd (upd (upd c (10 + m) (x)) (16 + m) (nI 0)) (19 + m) (nI 0)) (13 + m) (nI 0) = g1
    refine h_geti (g := g1) (k := 0) (g1 1) hH rfl (hF0 _) inX1_addLine_X1 (by decide) (by decide +kernel) rfl dX1_addLine_23 ?_
    refine v_topi (nI m) ((by subst_vars; simp only [upd_ap]; rw [if_neg (by omega), if_neg (by omega), if_neg (by omega), if_neg (by omega)]; exact hm)) ?_
    refine v_iconst (nI 1) dX1_addLine_26 (by decide +kernel) ?_
    refine v_iaddN dX1_addLine_27 ?_
    refine h_puti (k := 0) hH rfl (hst_h0 _) inX1_addLine_X1 (by decide) (by decide +kernel) rfl rfl (by decide +kernel) dX1_addLine_28 ?_
    generalize hg2 : upd g1 1 (nI (m + 1)) = g2
    refine v_aload_n 0 dX1_addLine_31 rfl rfl ?_
    refine h_geti (g := g2) (k := 0) (g2 1) hH rfl (hF0 _) inX1_addLine_X1 (by decide) (by decide +kernel) rfl dX1_addLine_32 ?_
    refine v_topi (nI (m + 1)) ((by subst_vars; rw [upd_ap, if_pos rfl])) ?_
    refine v_iconst (nI 1) dX1_addLine_35 (by decide +kernel) ?_
    refine v_isubN (by omega) dX1_addLine_36 ?_
    refine v_iret rfl dX1_addLine_37 ⟨congrArg (fun z => some (Value.int z)) ?_, congrArg (φ shp) ?_⟩
    · exact congrArg nI (by omega)
    · subst hg1; subst hg2; rfl
  · skip
    omega
set_option maxRecDepth 100000 in
theorem inX1_mayEnter_X1 : ∀ w ∈ wsX10, w ∈ wsX1_mayEnter := by decide +kernel
set_option maxRecDepth 100000 in
theorem inX1_mayEnter_X3 : ∀ w ∈ wsX30, w ∈ wsX1_mayEnter := by decide +kernel
set_option maxHeartbeats 4000000 in
set_option maxRecDepth 100000 in
/-- Hall.mayEnter -/
theorem c_X1_mayEnter (lu : Launch) (Dg : va_G) (E : Nat → ClassId) (N : Nat) (G : Nat → Nat) (shp : Nat → (Nat → Int32) → va_E) (σ : Nat → Nat → Int32) {b : Nat} (hH : HallS E G shp N b) (c : Nat → Int32) {T : Nat} (hI : Inv T c) {y k0 : Nat} (hy : y < 2 ^ 31) (hk0 : k0 < 2 ^ 31)  : CS lu yX1_mayEnter wsX1_mayEnter { frames := 1, cells := 0, slots := 0, locals := 21 } Dg E N G shp (hs σ b c) [.ref (G b), .int (nI y), .int (nI k0)] (some (.int (bi (comeFl c (nI y) (nI k0) = 0)))) (hs σ b c) := by
  refine CS.of (cc := cX1_mayEnter) (maxL := 3) (ret := (some .boolean)) (by decide) rfl (Nat.le_of_ble_eq_true rfl) ?_
  intro p_ e_ s_ m_ args_ below_ meth_ c_
  refine v_eq (pc' := 0) (st' := []) rfl rfl ?_
  refine v_loc [0, 1, 2] [(0, .ref (G b)), (1, .int (nI y)), (2, .int (nI k0))] rfl ?_
  refine v_aload_n 0 dX1_mayEnter_0 rfl rfl ?_
  refine v_iload_n 1 dX1_mayEnter_1 rfl rfl ?_
  refine u_callVv [.int (nI y)] [] 1 (c_X1_isLine lu Dg E N G shp σ hH c hI.nl (by have := hI.nl3; omega) (nI y)) (ci := 1) (C := RX1) (T := TX1) (NF := 11) hH.n hH.s rfl gX1_mayEnter_X1_isLine rfl rfl rfl (by decide +kernel) rfl ⟨Nat.le_of_ble_eq_true rfl, Nat.le_of_ble_eq_true rfl⟩ ⟨Nat.le_of_ble_eq_true rfl, Nat.le_of_ble_eq_true rfl⟩ (Nat.le_of_ble_eq_true rfl) rfl dX1_mayEnter_2 ?_
  refine v_if_eqB 41 dX1_mayEnter_5 rfl (fun h5 => ?_) (fun h5 => ?_)
  · skip
    refine v_iconst (nI 0) dX1_mayEnter_41 (by decide +kernel) ?_
    refine v_zret rfl (by decide +kernel) dX1_mayEnter_42 ⟨congrArg (fun z => some (Value.int z)) ?_, congrArg (φ shp) ?_⟩
    · exact bi_nf (fun q9 => by have q8 := comeFl_0.mp q9; first | exact h5 q8.1 | exact h12 q8.2.1 | exact q8.2.2.1 (by rw [hI.np]; exact congrArg nI (by omega)) | exact q8.2.2.2 (by rw [tn_nI (by omega), hI.len hyl]; exact congrArg nI (by have := hI.len12 hyl; omega)))
    · rfl
  · skip
    have hyl := (Rg_nI (by omega) (by have := hI.nl3; omega)).mp h5
    have hl3 := Nat.lt_of_lt_of_le hyl hI.nl3
    refine v_iload_n 2 dX1_mayEnter_8 rfl rfl ?_
    refine u_callSNv [.int (nI k0)] [] 1 (c_X5_isKind lu Dg E N G shp (hs σ b c) (nI k0)) "StoodMinutes" (by decide +kernel) (by decide +kernel) (by decide +kernel) gX1_mayEnter_X5_isKind_n149 rfl rfl rfl (by decide +kernel) rfl ⟨Nat.le_of_ble_eq_true rfl, Nat.le_of_ble_eq_true rfl⟩ ⟨Nat.le_of_ble_eq_true rfl, Nat.le_of_ble_eq_true rfl⟩ (Nat.le_of_ble_eq_true rfl) rfl dX1_mayEnter_9 ?_
    refine v_if_eqB 41 dX1_mayEnter_12 rfl (fun h12 => ?_) (fun h12 => ?_)
    · skip
      refine v_iconst (nI 0) dX1_mayEnter_41 (by decide +kernel) ?_
      refine v_zret rfl (by decide +kernel) dX1_mayEnter_42 ⟨congrArg (fun z => some (Value.int z)) ?_, congrArg (φ shp) ?_⟩
      · exact bi_nf (fun q9 => by have q8 := comeFl_0.mp q9; first | exact h5 q8.1 | exact h12 q8.2.1 | exact q8.2.2.1 (by rw [hI.np]; exact congrArg nI (by omega)) | exact q8.2.2.2 (by rw [tn_nI (by omega), hI.len hyl]; exact congrArg nI (by have := hI.len12 hyl; omega)))
      · rfl
    · skip
      have hnp30 := hI.np30
      refine v_aload_n 0 dX1_mayEnter_15 rfl rfl ?_
      refine h_geti (g := c) (k := 1) (c 2) hH rfl (hF1 _) inX1_mayEnter_X1 (by decide) (by decide +kernel) rfl dX1_mayEnter_16 ?_
      refine v_topi (nI (tn (c 2))) (hI.np) ?_
      refine v_bipush (nI 30) dX1_mayEnter_19 (by decide +kernel) ?_
      refine v_icmp_geN 41 (by omega) (by omega) dX1_mayEnter_21 rfl (fun h21 => ?_) (fun h21 => ?_)
      · skip
        refine v_iconst (nI 0) dX1_mayEnter_41 (by decide +kernel) ?_
        refine v_zret rfl (by decide +kernel) dX1_mayEnter_42 ⟨congrArg (fun z => some (Value.int z)) ?_, congrArg (φ shp) ?_⟩
        · exact bi_nf (fun q9 => by have q8 := comeFl_0.mp q9; first | exact h5 q8.1 | exact h12 q8.2.1 | exact q8.2.2.1 (by rw [hI.np]; exact congrArg nI (by omega)) | exact q8.2.2.2 (by rw [tn_nI (by omega), hI.len hyl]; exact congrArg nI (by have := hI.len12 hyl; omega)))
        · rfl
      · skip
        refine v_aload_n 0 dX1_mayEnter_24 rfl rfl ?_
        refine v_iload_n 1 dX1_mayEnter_25 rfl rfl ?_
        refine u_callVv [.int (nI y)] [] 1 (c_X1_lineOf lu Dg E N G shp σ hH c (k := y) (by omega)) (ci := 1) (C := RX1) (T := TX1) (NF := 11) hH.n hH.s rfl gX1_mayEnter_X1_lineOf rfl rfl rfl (by decide +kernel) rfl ⟨Nat.le_of_ble_eq_true rfl, Nat.le_of_ble_eq_true rfl⟩ ⟨Nat.le_of_ble_eq_true rfl, Nat.le_of_ble_eq_true rfl⟩ (Nat.le_of_ble_eq_true rfl) rfl dX1_mayEnter_26 ?_
        refine l_geti (g := c) (k := 3) (y := y) (by omega) (c (13 + y)) hH rfl (lF3 _ _) inX1_mayEnter_X3 (by decide) (by decide +kernel) rfl dX1_mayEnter_29 ?_
        refine v_topi (nI (tn (c (13 + y)))) (hI.len hyl) ?_
        refine v_bipush (nI 12) dX1_mayEnter_32 (by decide +kernel) ?_
        refine v_icmp_geN 41 (by have := hI.len12 hyl; omega) (by omega) dX1_mayEnter_34 rfl (fun h34 => ?_) (fun h34 => ?_)
        · skip
          refine v_iconst (nI 0) dX1_mayEnter_41 (by decide +kernel) ?_
          refine v_zret rfl (by decide +kernel) dX1_mayEnter_42 ⟨congrArg (fun z => some (Value.int z)) ?_, congrArg (φ shp) ?_⟩
          · exact bi_nf (fun q9 => by have q8 := comeFl_0.mp q9; first | exact h5 q8.1 | exact h12 q8.2.1 | exact q8.2.2.1 (by rw [hI.np]; exact congrArg nI (by omega)) | exact q8.2.2.2 (by rw [tn_nI (by omega), hI.len hyl]; exact congrArg nI (by have := hI.len12 hyl; omega)))
          · rfl
        · skip
          refine v_iconst (nI 1) dX1_mayEnter_37 (by decide +kernel) ?_
          refine v_goto 42 dX1_mayEnter_38 rfl ?_
          refine v_zret rfl (by decide +kernel) dX1_mayEnter_42 ⟨congrArg (fun z => some (Value.int z)) ?_, congrArg (φ shp) ?_⟩
          · exact bi_nt (comeFl_0.mpr ⟨h5, h12, fun e => by rw [hI.np] at e; have := (nI_eq (by omega) (by omega)).mp e; omega, fun e => by rw [tn_nI (by omega), hI.len hyl] at e; have := (nI_eq (by have := hI.len12 hyl; omega) (by omega)).mp e; omega⟩)
          · rfl
