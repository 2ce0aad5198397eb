theorem cmdN_le (t : Nat → Int32) (lz p : Nat) : cmdN t lz p ≤ p + 5 := by
  have a1 := persN_le t lz (p + 1)
  have a2 := persN_le t lz (persN t lz (p + 1))
  have a3 := tkN_le t lz (nI 48) (nI 50) (p + 1 + 1)
  have a4 := tkN_le t lz (nI 49) (nI 57) (p + 1)
  unfold cmdN
  by_cases h1 : chrT t lz p = nI 99
  · rw [ic_t h1]
    by_cases q : tkB t lz (nI 48) (nI 50) (p + 1)
    · rw [ic_t q]; omega
    · rw [ic_f q]; omega
  rw [ic_f h1]
  by_cases h2 : chrT t lz p = nI 103
  · rw [ic_t h2]; omega
  rw [ic_f h2]
  by_cases h3 : chrT t lz p = nI 106
  · rw [ic_t h3]; omega
  rw [ic_f h3]
  by_cases h4 : chrT t lz p = nI 116
  · rw [ic_t h4]; omega
  rw [ic_f h4]
  by_cases h5 : chrT t lz p = nI 120
  · rw [ic_t h5]
    by_cases q : persB t lz (p + 1)
    · rw [ic_t q]; omega
    · rw [ic_f q]; omega
  rw [ic_f h5]; omega
theorem comR_le (t : Nat → Int32) (lz q : Nat) : ∀ k, (comR t lz q k).1 ≤ q + 5 * k
  | 0 => Nat.le_refl _
  | k + 1 => by
    have ih := comR_le t lz q k
    have h1 := cmdN_le t lz (comR t lz q k).1
    show (ic ((comR t lz q k).2 ∧ (comR t lz q k).1 < lz) (cmdN t lz (comR t lz q k).1, cmdB t lz (comR t lz q k).1) (comR t lz q k)).1 ≤ _
    by_cases h : (comR t lz q k).2 ∧ (comR t lz q k).1 < lz
    · rw [ic_t h]; show cmdN t lz (comR t lz q k).1 ≤ _; omega
    · rw [ic_f h]; omega
set_option maxHeartbeats 4000000 in
set_option maxRecDepth 100000 in
/-- Day.firstError -/
theorem c_X0_firstError_0 (lu : Launch) (Dg : va_G) (E : Nat → ClassId) (N : Nat) (G : Nat → Nat) (shp : Nat → (Nat → Int32) → va_E) (σ : Nat → Nat → Int32) {x : Nat} (hX : DayS E G shp N x)  {lz : Nat} (hl : σ x 1 = nI lz) (h100 : lz ≤ 100) {m : Nat} (hw : tkB (σ (x + 1)) lz (nI 87) (nI 87) (0)) (hd : tkB (σ (x + 1)) lz (nI 49) (nI 51) (0 + 1)) (q9 : chrT (σ (x + 1)) lz (0 + 1) - nI 48 = nI m) (hm : m ≤ 3) (hp2 : (pacR (σ (x + 1)) lz (0 + 1 + 1) m).2)  : CS lu yX0_firstError wsX0_firstError { frames := 4, cells := 0, slots := 0, locals := 86 } Dg E N G shp σ [.ref (G x)] (some (.int (ic (comR (σ (x + 1)) lz (pacR (σ (x + 1)) lz (0 + 1 + 1) m).1 100).2 (-1) (nI (comR (σ (x + 1)) lz (pacR (σ (x + 1)) lz (0 + 1 + 1) m).1 100).1)))) (st2 σ x 2 (nI (comR (σ (x + 1)) lz (pacR (σ (x + 1)) lz (0 + 1 + 1) m).1 100).1)) := by
  refine CS.of (cc := cX0_firstError) (maxL := 2) (ret := (some .int)) (by decide) rfl (Nat.le_of_ble_eq_true rfl) ?_
  intro p_ e_ s_ m_ args_ below_ meth_ c_
  refine v_eq (pc' := 0) (st' := []) rfl rfl ?_
  refine v_loc [0] [(0, .ref (G x))] rfl ?_
  refine v_aload_n 0 dX0_firstError_0 rfl rfl ?_
  refine v_iconst (nI 0) dX0_firstError_1 (by decide +kernel) ?_
  refine u_puti (k := 2) (C := RX0) (T := TX0) (NF := 3) (ty := .int) hX.n hX.2.1 rfl rfl inX0_firstError_X0 tyX0 tyX0_ok nmX0 (by decide) (by decide +kernel) rfl rfl (by decide +kernel) rfl rfl dX0_firstError_2 ?_
  generalize hσ1 : st2 σ x 2 (nI 0) = σ1
  subst hσ1
  refine v_aload_n 0 dX0_firstError_5 rfl rfl ?_
  refine u_callVv [] [] 0 (c_X0_takeLines_0 lu Dg E N G shp σ hX (lz := lz) hl h100 (p := 0) (m := m) (by omega) hw hd q9 hm) (ci := 0) (C := RX0) (T := TX0) (NF := 3) hX.n hX.2.1 rfl gX0_firstError_X0_takeLines rfl rfl rfl (by decide +kernel) rfl ⟨Nat.le_of_ble_eq_true rfl, Nat.le_of_ble_eq_true rfl⟩ ⟨Nat.le_of_ble_eq_true rfl, Nat.le_of_ble_eq_true rfl⟩ (Nat.le_of_ble_eq_true rfl) rfl dX0_firstError_6 ?_
  refine v_if_neB 17 dX0_firstError_9 rfl (fun h9 => ?_) (fun h9 => ?_)
  · skip
    have hpm := pacR_le (σ (x + 1)) lz (0 + 1 + 1) m
    refine v_iconst (nI 0) dX0_firstError_17 (by decide +kernel) ?_
    refine v_istore_n [(1, .int (nI 0)), (0, .ref (G x))] dX0_firstError_18 rfl (by decide) rfl ?_
    refine v_loc [0, 1] [(1, .int (nI 0)), (0, .ref (G x))] rfl ?_
    refine u_loop1 (fun n (j : Nat) => j + n = 100 ∧ (comR (σ (x + 1)) lz (pacR (σ (x + 1)) lz (0 + 1 + 1) m).1 j).2) (fun (j : Nat) => st2 σ x 2 (nI (comR (σ (x + 1)) lz (pacR (σ (x + 1)) lz (0 + 1 + 1) m).1 j).1)) (fun (j : Nat) => [(1, .int (nI j)), (0, .ref (G x))]) (100) 0 (⟨by omega, trivial⟩) ?_
    intro n j hL ih
    obtain ⟨hL1, hL2⟩ := hL
    refine v_iload_n 0 dX0_firstError_19 rfl rfl ?_
    refine v_bipush (nI 100) dX0_firstError_20 (by decide +kernel) ?_
    refine v_icmp_geN 54 (by omega) (by omega) dX0_firstError_22 rfl (fun h22 => ?_) (fun h22 => ?_)
    · skip
      have ek9 : comR (σ (x + 1)) lz (pacR (σ (x + 1)) lz (0 + 1 + 1) m).1 100 = comR (σ (x + 1)) lz (pacR (σ (x + 1)) lz (0 + 1 + 1) m).1 j := by rw [show j = 100 by omega]
      refine v_iconst ((-1)) dX0_firstError_54 (by decide +kernel) ?_
      refine v_iret rfl dX0_firstError_55 ⟨congrArg (fun z => some (Value.int z)) ?_, congrArg (φ shp) ?_⟩
      · rw [ek9, ic_t hL2]
      · rw [ek9]
    · skip
      have hle := comR_le (σ (x + 1)) lz (pacR (σ (x + 1)) lz (0 + 1 + 1) m).1 j
      refine v_aload_n 1 dX0_firstError_25 rfl rfl ?_
      refine u_geti (k := 2) (C := RX0) (T := TX0) (NF := 3) hX.n hX.2.1 rfl rfl inX0_firstError_X0 (by decide) (by decide +kernel) rfl dX0_firstError_26 ?_
      refine v_topi (nI ((comR (σ (x + 1)) lz (pacR (σ (x + 1)) lz (0 + 1 + 1) m).1 j).1)) (st2_same _ _ _ _) ?_
      refine v_aload_n 1 dX0_firstError_29 rfl rfl ?_
      refine u_geti (k := 1) (C := RX0) (T := TX0) (NF := 3) hX.n hX.2.1 rfl rfl inX0_firstError_X0 (by decide) (by decide +kernel) rfl dX0_firstError_30 ?_
      refine v_topi (nI lz) ((by rw [st2_eq, if_neg (by omega)]; exact hl)) ?_
      refine v_icmp_geN 54 (by omega) (by omega) dX0_firstError_33 rfl (fun h33 => ?_) (fun h33 => ?_)
      · skip
        have ek9 : comR (σ (x + 1)) lz (pacR (σ (x + 1)) lz (0 + 1 + 1) m).1 100 = comR (σ (x + 1)) lz (pacR (σ (x + 1)) lz (0 + 1 + 1) m).1 j := comR_stay (by omega) (fun z9 => by have := z9.2; omega)
        refine v_iconst ((-1)) dX0_firstError_54 (by decide +kernel) ?_
        refine v_iret rfl dX0_firstError_55 ⟨congrArg (fun z => some (Value.int z)) ?_, congrArg (φ shp) ?_⟩
        · rw [ek9, ic_t hL2]
        · rw [ek9]
      · skip
        have es : comR (σ (x + 1)) lz (pacR (σ (x + 1)) lz (0 + 1 + 1) m).1 (j + 1) = (cmdN (σ (x + 1)) lz (comR (σ (x + 1)) lz (pacR (σ (x + 1)) lz (0 + 1 + 1) m).1 j).1, cmdB (σ (x + 1)) lz (comR (σ (x + 1)) lz (pacR (σ (x + 1)) lz (0 + 1 + 1) m).1 j).1) := by
          show ic ((comR (σ (x + 1)) lz (pacR (σ (x + 1)) lz (0 + 1 + 1) m).1 j).2 ∧ (comR (σ (x + 1)) lz (pacR (σ (x + 1)) lz (0 + 1 + 1) m).1 j).1 < lz) _ _ = _
          rw [ic_t (P := (comR (σ (x + 1)) lz (pacR (σ (x + 1)) lz (0 + 1 + 1) m).1 j).2 ∧ (comR (σ (x + 1)) lz (pacR (σ (x + 1)) lz (0 + 1 + 1) m).1 j).1 < lz) ⟨hL2, by omega⟩]
        refine v_aload_n 1 dX0_firstError_36 rfl rfl ?_
        refine u_callVv [] [] 0 (c_X0_takeCommand lu Dg E N G shp σ hX (lz := lz) hl h100 (p := (comR (σ (x + 1)) lz (pacR (σ (x + 1)) lz (0 + 1 + 1) m).1 j).1) (by omega)) (ci := 0) (C := RX0) (T := TX0) (NF := 3) hX.n hX.2.1 rfl gX0_firstError_X0_takeCommand rfl rfl rfl (by decide +kernel) rfl ⟨Nat.le_of_ble_eq_true rfl, Nat.le_of_ble_eq_true rfl⟩ ⟨Nat.le_of_ble_eq_true rfl, Nat.le_of_ble_eq_true rfl⟩ (Nat.le_of_ble_eq_true rfl) rfl dX0_firstError_37 ?_
        refine v_if_neB 48 dX0_firstError_40 rfl (fun h40 => ?_) (fun h40 => ?_)
        · skip
          have es1 : (comR (σ (x + 1)) lz (pacR (σ (x + 1)) lz (0 + 1 + 1) m).1 (j + 1)).2 := by rw [es]; exact h40
          refine v_σ (st2 σ x 2 (nI (comR (σ (x + 1)) lz (pacR (σ (x + 1)) lz (0 + 1 + 1) m).1 (j + 1)).1)) (by rw [es]) ?_
          refine v_iincN 0 [(1, .int (nI (j + 1))), (0, .ref (G x))] dX0_firstError_48 rfl (by decide) rfl ?_
          refine v_goto 19 dX0_firstError_51 rfl ?_
          refine v_loc [0, 1] [(1, .int (nI (j + 1))), (0, .ref (G x))] rfl ?_
          exact ih _ (j + 1) (show n - 1 < n by omega) (⟨by omega, es1⟩)
        · skip
          have ek : comR (σ (x + 1)) lz (pacR (σ (x + 1)) lz (0 + 1 + 1) m).1 100 = comR (σ (x + 1)) lz (pacR (σ (x + 1)) lz (0 + 1 + 1) m).1 (j + 1) := comR_stay (by omega) (fun z9 => h40 (by rw [es] at z9; exact z9.1))
          refine v_aload_n 1 dX0_firstError_43 rfl rfl ?_
          refine u_geti (k := 2) (C := RX0) (T := TX0) (NF := 3) hX.n hX.2.1 rfl rfl inX0_firstError_X0 (by decide) (by decide +kernel) rfl dX0_firstError_44 ?_
          refine v_topi (nI (cmdN (σ (x + 1)) lz (comR (σ (x + 1)) lz (pacR (σ (x + 1)) lz (0 + 1 + 1) m).1 j).1)) (st2_same _ _ _ _) ?_
          refine v_iret rfl dX0_firstError_47 ⟨congrArg (fun z => some (Value.int z)) ?_, congrArg (φ shp) ?_⟩
          · rw [ek, es, ic_f h40]
          · rw [ek, es]
  · skip
    exact absurd hp2 h9
