set_option maxHeartbeats 4000000 in
set_option maxRecDepth 100000 in
/-- Day.takeLines -/
theorem c_X0_takeLines_w (lu : Launch) (Dg : va_G) (E : Nat → ClassId) (N : Nat) (G : Nat → Nat) (shp : Nat → (Nat → Int32) → va_E) (σ : Nat → Nat → Int32) {x : Nat} (hX : DayS E G shp N x)  {lz : Nat} (hl : σ x 1 = nI lz) (h100 : lz ≤ 100) {p : Nat} (hp : p < 2 ^ 18) (hw : ¬ tkB (σ (x + 1)) lz (nI 87) (nI 87) (p))  : CS lu yX0_takeLines wsX0_takeLines { frames := 3, cells := 0, slots := 0, locals := 64 } Dg E N G shp (st2 σ x 2 (nI p)) [.ref (G x)] (some (.int (bi False))) (st2 σ x 2 (nI p)) := by
  refine CS.of (cc := cX0_takeLines) (maxL := 3) (ret := (some .boolean)) (by decide) rfl (Nat.le_of_ble_eq_true rfl) ?_
  intro p_ e_ s_ m_ args_ below_ meth_ c_
  refine v_eq (pc' := 0) (st' := []) rfl rfl ?_
  refine v_loc [0] [(0, .ref (G x))] rfl ?_
  refine v_aload_n 0 dX0_takeLines_0 rfl rfl ?_
  refine v_bipush (nI 87) dX0_takeLines_1 (by decide +kernel) ?_
  refine v_bipush (nI 87) dX0_takeLines_3 (by decide +kernel) ?_
  refine u_callVv [.int (nI 87), .int (nI 87)] [] 2 (c_X0_take lu Dg E N G shp σ hX (lz := lz) hl h100 (p := p) (by omega) (nI 87) (nI 87)) (ci := 0) (C := RX0) (T := TX0) (NF := 3) hX.n hX.2.1 rfl gX0_takeLines_X0_take rfl rfl rfl (by decide +kernel) rfl ⟨Nat.le_of_ble_eq_true rfl, Nat.le_of_ble_eq_true rfl⟩ ⟨Nat.le_of_ble_eq_true rfl, Nat.le_of_ble_eq_true rfl⟩ (Nat.le_of_ble_eq_true rfl) rfl dX0_takeLines_5 ?_
  refine v_if_eqB 22 dX0_takeLines_8 rfl (fun h8 => ?_) (fun h8 => ?_)
  · skip
    refine v_σ (st2 σ x 2 (nI p)) (by unfold tkN; rw [ic_f h8]) ?_
    refine v_iconst (nI 0) dX0_takeLines_22 (by decide +kernel) ?_
    refine v_zret rfl (by decide +kernel) dX0_takeLines_23 ⟨congrArg (fun z => some (Value.int z)) ?_, congrArg (φ shp) ?_⟩
    · exact bi_nf (fun z9 => z9)
    · rfl
  · skip
    exact absurd h8 hw

set_option maxHeartbeats 4000000 in
set_option maxRecDepth 100000 in
/-- Day.takeLines -/
theorem c_X0_takeLines_d (lu : Launch) (Dg : va_G) (E : Nat → ClassId) (N : Nat) (G : Nat → Nat) (shp : Nat → (Nat → Int32) → va_E) (σ : Nat → Nat → Int32) {x : Nat} (hX : DayS E G shp N x)  {lz : Nat} (hl : σ x 1 = nI lz) (h100 : lz ≤ 100) {p : Nat} (hp : p < 2 ^ 18) (hw : tkB (σ (x + 1)) lz (nI 87) (nI 87) (p)) (hd : ¬ tkB (σ (x + 1)) lz (nI 49) (nI 51) (p + 1))  : CS lu yX0_takeLines wsX0_takeLines { frames := 3, cells := 0, slots := 0, locals := 64 } Dg E N G shp (st2 σ x 2 (nI p)) [.ref (G x)] (some (.int (bi False))) (st2 σ x 2 (nI (p + 1))) := by
  refine CS.of (cc := cX0_takeLines) (maxL := 3) (ret := (some .boolean)) (by decide) rfl (Nat.le_of_ble_eq_true rfl) ?_
  intro p_ e_ s_ m_ args_ below_ meth_ c_
  refine v_eq (pc' := 0) (st' := []) rfl rfl ?_
  refine v_loc [0] [(0, .ref (G x))] rfl ?_
  refine v_aload_n 0 dX0_takeLines_0 rfl rfl ?_
  refine v_bipush (nI 87) dX0_takeLines_1 (by decide +kernel) ?_
  refine v_bipush (nI 87) dX0_takeLines_3 (by decide +kernel) ?_
  refine u_callVv [.int (nI 87), .int (nI 87)] [] 2 (c_X0_take lu Dg E N G shp σ hX (lz := lz) hl h100 (p := p) (by omega) (nI 87) (nI 87)) (ci := 0) (C := RX0) (T := TX0) (NF := 3) hX.n hX.2.1 rfl gX0_takeLines_X0_take rfl rfl rfl (by decide +kernel) rfl ⟨Nat.le_of_ble_eq_true rfl, Nat.le_of_ble_eq_true rfl⟩ ⟨Nat.le_of_ble_eq_true rfl, Nat.le_of_ble_eq_true rfl⟩ (Nat.le_of_ble_eq_true rfl) rfl dX0_takeLines_5 ?_
  refine v_if_eqB 22 dX0_takeLines_8 rfl (fun h8 => ?_) (fun h8 => ?_)
  · skip
    exact absurd hw h8
  · skip
    refine v_σ (st2 σ x 2 (nI (p + 1))) (by unfold tkN; rw [ic_t hw]) ?_
    refine v_aload_n 0 dX0_takeLines_11 rfl rfl ?_
    refine v_bipush (nI 49) dX0_takeLines_12 (by decide +kernel) ?_
    refine v_bipush (nI 51) dX0_takeLines_14 (by decide +kernel) ?_
    refine u_callVv [.int (nI 49), .int (nI 51)] [] 2 (c_X0_take lu Dg E N G shp σ hX (lz := lz) hl h100 (p := p + 1) (by omega) (nI 49) (nI 51)) (ci := 0) (C := RX0) (T := TX0) (NF := 3) hX.n hX.2.1 rfl gX0_takeLines_X0_take rfl rfl rfl (by decide +kernel) rfl ⟨Nat.le_of_ble_eq_true rfl, Nat.le_of_ble_eq_true rfl⟩ ⟨Nat.le_of_ble_eq_true rfl, Nat.le_of_ble_eq_true rfl⟩ (Nat.le_of_ble_eq_true rfl) rfl dX0_takeLines_16 ?_
    refine v_if_neB 24 dX0_takeLines_19 rfl (fun h19 => ?_) (fun h19 => ?_)
    · skip
      exact absurd h19 hd
    · skip
      refine v_σ (st2 σ x 2 (nI (p + 1))) (by unfold tkN; rw [ic_f h19]) ?_
      refine v_iconst (nI 0) dX0_takeLines_22 (by decide +kernel) ?_
      refine v_zret rfl (by decide +kernel) dX0_takeLines_23 ⟨congrArg (fun z => some (Value.int z)) ?_, congrArg (φ shp) ?_⟩
      · exact bi_nf (fun z9 => z9)
      · rfl

set_option maxRecDepth 100000 in
theorem inX0_takeLines_X0 : ∀ w ∈ wsX00, w ∈ wsX0_takeLines := by decide +kernel
set_option maxHeartbeats 4000000 in
set_option maxRecDepth 100000 in
/-- Day.takeLines -/
theorem c_X0_takeLines_0 (lu : Launch) (Dg : va_G) (E : Nat → ClassId) (N : Nat) (G : Nat → Nat) (shp : Nat → (Nat → Int32) → va_E) (σ : Nat → Nat → Int32) {x : Nat} (hX : DayS E G shp N x)  {lz : Nat} (hl : σ x 1 = nI lz) (h100 : lz ≤ 100) {p m : Nat} (hp : p < 2 ^ 18) (hw : tkB (σ (x + 1)) lz (nI 87) (nI 87) (p)) (hd : tkB (σ (x + 1)) lz (nI 49) (nI 51) (p + 1)) (q9 : chrT (σ (x + 1)) lz (p + 1) - nI 48 = nI m) (hm : m ≤ 3)  : CS lu yX0_takeLines wsX0_takeLines { frames := 3, cells := 0, slots := 0, locals := 64 } Dg E N G shp (st2 σ x 2 (nI p)) [.ref (G x)] (some (.int (bi ((pacR (σ (x + 1)) lz (p + 1 + 1) m).2)))) (st2 σ x 2 (nI (pacR (σ (x + 1)) lz (p + 1 + 1) m).1)) := by
  refine CS.of (cc := cX0_takeLines) (maxL := 3) (ret := (some .boolean)) (by decide) rfl (Nat.le_of_ble_eq_true rfl) ?_
  intro p_ e_ s_ m_ args_ below_ meth_ c_
  refine v_eq (pc' := 0) (st' := []) rfl rfl ?_
  refine v_loc [0] [(0, .ref (G x))] rfl ?_
  refine v_aload_n 0 dX0_takeLines_0 rfl rfl ?_
  refine v_bipush (nI 87) dX0_takeLines_1 (by decide +kernel) ?_
  refine v_bipush (nI 87) dX0_takeLines_3 (by decide +kernel) ?_
  refine u_callVv [.int (nI 87), .int (nI 87)] [] 2 (c_X0_take lu Dg E N G shp σ hX (lz := lz) hl h100 (p := p) (by omega) (nI 87) (nI 87)) (ci := 0) (C := RX0) (T := TX0) (NF := 3) hX.n hX.2.1 rfl gX0_takeLines_X0_take rfl rfl rfl (by decide +kernel) rfl ⟨Nat.le_of_ble_eq_true rfl, Nat.le_of_ble_eq_true rfl⟩ ⟨Nat.le_of_ble_eq_true rfl, Nat.le_of_ble_eq_true rfl⟩ (Nat.le_of_ble_eq_true rfl) rfl dX0_takeLines_5 ?_
  refine v_if_eqB 22 dX0_takeLines_8 rfl (fun h8 => ?_) (fun h8 => ?_)
  · skip
    exact absurd hw h8
  · skip
    refine v_σ (st2 σ x 2 (nI (p + 1))) (by unfold tkN; rw [ic_t hw]) ?_
    refine v_aload_n 0 dX0_takeLines_11 rfl rfl ?_
    refine v_bipush (nI 49) dX0_takeLines_12 (by decide +kernel) ?_
    refine v_bipush (nI 51) dX0_takeLines_14 (by decide +kernel) ?_
    refine u_callVv [.int (nI 49), .int (nI 51)] [] 2 (c_X0_take lu Dg E N G shp σ hX (lz := lz) hl h100 (p := p + 1) (by omega) (nI 49) (nI 51)) (ci := 0) (C := RX0) (T := TX0) (NF := 3) hX.n hX.2.1 rfl gX0_takeLines_X0_take rfl rfl rfl (by decide +kernel) rfl ⟨Nat.le_of_ble_eq_true rfl, Nat.le_of_ble_eq_true rfl⟩ ⟨Nat.le_of_ble_eq_true rfl, Nat.le_of_ble_eq_true rfl⟩ (Nat.le_of_ble_eq_true rfl) rfl dX0_takeLines_16 ?_
    refine v_if_neB 24 dX0_takeLines_19 rfl (fun h19 => ?_) (fun h19 => ?_)
    · skip
      refine v_σ (st2 σ x 2 (nI (p + 1 + 1))) (by unfold tkN; rw [ic_t hd]) ?_
      refine v_aload_n 0 dX0_takeLines_24 rfl rfl ?_
      refine v_aload_n 0 dX0_takeLines_25 rfl rfl ?_
      refine u_geti (k := 2) (C := RX0) (T := TX0) (NF := 3) hX.n hX.2.1 rfl rfl inX0_takeLines_X0 (by decide) (by decide +kernel) rfl dX0_takeLines_26 ?_
      refine v_topi (nI (p + 1 + 1)) (st2_same _ _ _ _) ?_
      refine v_iconst (nI 1) dX0_takeLines_29 (by decide +kernel) ?_
      refine v_isubN (by omega) dX0_takeLines_30 ?_
      refine u_callVv [.int (nI ((p + 1 + 1) - 1))] [] 1 (c_X0_digitAt lu Dg E N G shp (st2 σ x 2 (nI (p + 1 + 1))) hX (lz := lz) (by rw [st2_eq, if_neg (by omega)]; exact hl) h100 (p := p + 1 + 1 - 1) (by omega)) (ci := 0) (C := RX0) (T := TX0) (NF := 3) hX.n hX.2.1 rfl gX0_takeLines_X0_digitAt rfl rfl rfl (by decide +kernel) rfl ⟨Nat.le_of_ble_eq_true rfl, Nat.le_of_ble_eq_true rfl⟩ ⟨Nat.le_of_ble_eq_true rfl, Nat.le_of_ble_eq_true rfl⟩ (Nat.le_of_ble_eq_true rfl) rfl dX0_takeLines_31 ?_
      refine v_topi (nI m) (by rw [st2_row σ (by omega)]; exact q9) ?_
      refine v_istore_n [(1, .int (nI m)), (0, .ref (G x))] dX0_takeLines_34 rfl (by decide) rfl ?_
      refine v_iconst (nI 0) dX0_takeLines_35 (by decide +kernel) ?_
      refine v_istore_n [(2, .int (nI 0)), (1, .int (nI m)), (0, .ref (G x))] dX0_takeLines_36 rfl (by decide) rfl ?_
      refine v_loc [0, 1, 2] [(2, .int (nI 0)), (1, .int (nI m)), (0, .ref (G x))] rfl ?_
      refine u_loop1 (fun n (j : Nat) => j + n = m ∧ (pacR (σ (x + 1)) lz (p + 1 + 1) j).2) (fun (j : Nat) => st2 σ x 2 (nI (pacR (σ (x + 1)) lz (p + 1 + 1) j).1)) (fun (j : Nat) => [(2, .int (nI j)), (1, .int (nI m)), (0, .ref (G x))]) (m) 0 (⟨by omega, trivial⟩) ?_
      intro n j hL ih
      obtain ⟨hL1, hL2⟩ := hL
      refine v_iload_n 0 dX0_takeLines_37 rfl rfl ?_
      refine v_iload_n 1 dX0_takeLines_38 rfl rfl ?_
      refine v_icmp_geN 57 (by omega) (by omega) dX0_takeLines_39 rfl (fun h39 => ?_) (fun h39 => ?_)
      · skip
        have hjk9 : j = m := by omega
        have ek9 : pacR (σ (x + 1)) lz (p + 1 + 1) m = pacR (σ (x + 1)) lz (p + 1 + 1) j := by rw [hjk9]
        refine v_iconst (nI 1) dX0_takeLines_57 (by decide +kernel) ?_
        refine v_zret rfl (by decide +kernel) dX0_takeLines_58 ⟨congrArg (fun z => some (Value.int z)) ?_, congrArg (φ shp) ?_⟩
        · exact bi_nt (by rw [ek9]; exact hL2)
        · rw [ek9]
      · skip
        have hle := pacR_le (σ (x + 1)) lz (p + 1 + 1) j
        have es : pacR (σ (x + 1)) lz (p + 1 + 1) (j + 1) = (paceN (σ (x + 1)) lz (pacR (σ (x + 1)) lz (p + 1 + 1) j).1, paceB (σ (x + 1)) lz (pacR (σ (x + 1)) lz (p + 1 + 1) j).1) := by
          show ic (pacR (σ (x + 1)) lz (p + 1 + 1) j).2 _ _ = _
          rw [ic_t hL2]
        refine v_aload_n 2 dX0_takeLines_42 rfl rfl ?_
        refine u_callVv [] [] 0 (c_X0_takePace lu Dg E N G shp σ hX (lz := lz) hl h100 (p := (pacR (σ (x + 1)) lz (p + 1 + 1) j).1) (by omega)) (ci := 0) (C := RX0) (T := TX0) (NF := 3) hX.n hX.2.1 rfl gX0_takeLines_X0_takePace rfl rfl rfl (by decide +kernel) rfl ⟨Nat.le_of_ble_eq_true rfl, Nat.le_of_ble_eq_true rfl⟩ ⟨Nat.le_of_ble_eq_true rfl, Nat.le_of_ble_eq_true rfl⟩ (Nat.le_of_ble_eq_true rfl) rfl dX0_takeLines_43 ?_
        refine v_if_neB 51 dX0_takeLines_46 rfl (fun h46 => ?_) (fun h46 => ?_)
        · skip
          have es1 : (pacR (σ (x + 1)) lz (p + 1 + 1) (j + 1)).2 := by rw [es]; exact h46
          refine v_σ (st2 σ x 2 (nI (pacR (σ (x + 1)) lz (p + 1 + 1) (j + 1)).1)) (by rw [es]) ?_
          refine v_iincN 0 [(2, .int (nI (j + 1))), (1, .int (nI m)), (0, .ref (G x))] dX0_takeLines_51 rfl (by decide) rfl ?_
          refine v_goto 37 dX0_takeLines_54 rfl ?_
          refine v_loc [0, 1, 2] [(2, .int (nI (j + 1))), (1, .int (nI m)), (0, .ref (G x))] rfl ?_
          exact ih _ (j + 1) (show n - 1 < n by omega) (⟨by omega, es1⟩)
        · skip
          have ek : pacR (σ (x + 1)) lz (p + 1 + 1) m = pacR (σ (x + 1)) lz (p + 1 + 1) (j + 1) := pacR_stay (by omega) (by rw [es]; exact h46)
          refine v_iconst (nI 0) dX0_takeLines_49 (by decide +kernel) ?_
          refine v_zret rfl (by decide +kernel) dX0_takeLines_50 ⟨congrArg (fun z => some (Value.int z)) ?_, congrArg (φ shp) ?_⟩
          · exact bi_nf (by rw [ek, es]; exact h46)
          · rw [ek, es]
    · skip
      exact absurd hd h19
