/-- k commands one after another, as long as the text goes on and none is wrong -/
noncomputable def comR (t : Nat → Int32) (lz q : Nat) : Nat → Nat × Prop | 0 => (q, True) | k + 1 => ic ((comR t lz q k).2 ∧ (comR t lz q k).1 < lz) (cmdN t lz (comR t lz q k).1, cmdB t lz (comR t lz q k).1) (comR t lz q k)
theorem comR_stay {t : Nat → Int32} {lz q : Nat} : ∀ {k j : Nat}, k ≤ j → ¬ ((comR t lz q k).2 ∧ (comR t lz q k).1 < lz) → comR t lz q j = comR t lz q k
  | k, 0, h, hn => by obtain rfl : k = 0 := by omega
                      rfl
  | k, j + 1, h, hn => by
    by_cases e : k = j + 1
    · rw [e]
    · have ih := comR_stay (k := k) (j := j) (by omega) hn
      show ic ((comR t lz q j).2 ∧ (comR t lz q j).1 < lz) (cmdN t lz (comR t lz q j).1, cmdB t lz (comR t lz q j).1) (comR t lz q j) = _
      rw [ih, ic_f hn]
set_option maxRecDepth 100000 in
theorem inX0_firstError_X0 : ∀ w ∈ wsX00, w ∈ wsX0_firstError := by decide +kernel
set_option maxHeartbeats 4000000 in
set_option maxRecDepth 100000 in
/-- Day.firstError -/
theorem c_X0_firstError_w (lu : Launch) (Dg : va_G) (E : Nat → ClassId) (N : Nat) (G : Nat → Nat) (shp : Nat → (Nat → Int32) → va_E) (σ : Nat → Nat → Int32) {x : Nat} (hX : DayS E G shp N x)  {lz : Nat} (hl : σ x 1 = nI lz) (h100 : lz ≤ 100) (hw : ¬ tkB (σ (x + 1)) lz (nI 87) (nI 87) (0))  : CS lu yX0_firstError wsX0_firstError { frames := 4, cells := 0, slots := 0, locals := 86 } Dg E N G shp σ [.ref (G x)] (some (.int (nI 0))) (st2 σ x 2 (nI 0)) := by
  refine CS.of (cc := cX0_firstError) (maxL := 2) (ret := (some .int)) (by decide) rfl (Nat.le_of_ble_eq_true rfl) ?_
  intro p_ e_ s_ m_ args_ below_ meth_ c_
  refine v_eq (pc' := 0) (st' := []) rfl rfl ?_
  refine v_loc [0] [(0, .ref (G x))] rfl ?_
  refine v_aload_n 0 dX0_firstError_0 rfl rfl ?_
  refine v_iconst (nI 0) dX0_firstError_1 (by decide +kernel) ?_
  refine u_puti (k := 2) (C := RX0) (T := TX0) (NF := 3) (ty := .int) hX.n hX.2.1 rfl rfl inX0_firstError_X0 tyX0 tyX0_ok nmX0 (by decide) (by decide +kernel) rfl rfl (by decide +kernel) rfl rfl dX0_firstError_2 ?_
  generalize hσ1 : st2 σ x 2 (nI 0) = σ1
  subst hσ1
  refine v_aload_n 0 dX0_firstError_5 rfl rfl ?_
  refine u_callVv [] [] 0 (c_X0_takeLines_w lu Dg E N G shp σ hX (lz := lz) hl h100 (p := 0) (by omega) hw) (ci := 0) (C := RX0) (T := TX0) (NF := 3) hX.n hX.2.1 rfl gX0_firstError_X0_takeLines rfl rfl rfl (by decide +kernel) rfl ⟨Nat.le_of_ble_eq_true rfl, Nat.le_of_ble_eq_true rfl⟩ ⟨Nat.le_of_ble_eq_true rfl, Nat.le_of_ble_eq_true rfl⟩ (Nat.le_of_ble_eq_true rfl) rfl dX0_firstError_6 ?_
  refine v_if_neB 17 dX0_firstError_9 rfl (fun h9 => ?_) (fun h9 => ?_)
  · skip
    exact h9.elim
  · skip
    refine v_aload_n 0 dX0_firstError_12 rfl rfl ?_
    refine u_geti (k := 2) (C := RX0) (T := TX0) (NF := 3) hX.n hX.2.1 rfl rfl inX0_firstError_X0 (by decide) (by decide +kernel) rfl dX0_firstError_13 ?_
    refine v_topi (nI 0) (st2_same _ _ _ _) ?_
    refine v_iret rfl dX0_firstError_16 ⟨congrArg (fun z => some (Value.int z)) ?_, congrArg (φ shp) ?_⟩
    · rfl
    · rfl

set_option maxHeartbeats 4000000 in
set_option maxRecDepth 100000 in
/-- Day.firstError -/
theorem c_X0_firstError_d (lu : Launch) (Dg : va_G) (E : Nat → ClassId) (N : Nat) (G : Nat → Nat) (shp : Nat → (Nat → Int32) → va_E) (σ : Nat → Nat → Int32) {x : Nat} (hX : DayS E G shp N x)  {lz : Nat} (hl : σ x 1 = nI lz) (h100 : lz ≤ 100) (hw : tkB (σ (x + 1)) lz (nI 87) (nI 87) (0)) (hd : ¬ tkB (σ (x + 1)) lz (nI 49) (nI 51) (0 + 1))  : CS lu yX0_firstError wsX0_firstError { frames := 4, cells := 0, slots := 0, locals := 86 } Dg E N G shp σ [.ref (G x)] (some (.int (nI 1))) (st2 σ x 2 (nI 1)) := by
  refine CS.of (cc := cX0_firstError) (maxL := 2) (ret := (some .int)) (by decide) rfl (Nat.le_of_ble_eq_true rfl) ?_
  intro p_ e_ s_ m_ args_ below_ meth_ c_
  refine v_eq (pc' := 0) (st' := []) rfl rfl ?_
  refine v_loc [0] [(0, .ref (G x))] rfl ?_
  refine v_aload_n 0 dX0_firstError_0 rfl rfl ?_
  refine v_iconst (nI 0) dX0_firstError_1 (by decide +kernel) ?_
  refine u_puti (k := 2) (C := RX0) (T := TX0) (NF := 3) (ty := .int) hX.n hX.2.1 rfl rfl inX0_firstError_X0 tyX0 tyX0_ok nmX0 (by decide) (by decide +kernel) rfl rfl (by decide +kernel) rfl rfl dX0_firstError_2 ?_
  generalize hσ1 : st2 σ x 2 (nI 0) = σ1
  subst hσ1
  refine v_aload_n 0 dX0_firstError_5 rfl rfl ?_
  refine u_callVv [] [] 0 (c_X0_takeLines_d lu Dg E N G shp σ hX (lz := lz) hl h100 (p := 0) (by omega) hw hd) (ci := 0) (C := RX0) (T := TX0) (NF := 3) hX.n hX.2.1 rfl gX0_firstError_X0_takeLines rfl rfl rfl (by decide +kernel) rfl ⟨Nat.le_of_ble_eq_true rfl, Nat.le_of_ble_eq_true rfl⟩ ⟨Nat.le_of_ble_eq_true rfl, Nat.le_of_ble_eq_true rfl⟩ (Nat.le_of_ble_eq_true rfl) rfl dX0_firstError_6 ?_
  refine v_if_neB 17 dX0_firstError_9 rfl (fun h9 => ?_) (fun h9 => ?_)
  · skip
    exact h9.elim
  · skip
    refine v_aload_n 0 dX0_firstError_12 rfl rfl ?_
    refine u_geti (k := 2) (C := RX0) (T := TX0) (NF := 3) hX.n hX.2.1 rfl rfl inX0_firstError_X0 (by decide) (by decide +kernel) rfl dX0_firstError_13 ?_
    refine v_topi (nI 1) (st2_same _ _ _ _) ?_
    refine v_iret rfl dX0_firstError_16 ⟨congrArg (fun z => some (Value.int z)) ?_, congrArg (φ shp) ?_⟩
    · rfl
    · rfl

set_option maxHeartbeats 4000000 in
set_option maxRecDepth 100000 in
/-- Day.firstError -/
theorem c_X0_firstError_l (lu : Launch) (Dg : va_G) (E : Nat → ClassId) (N : Nat) (G : Nat → Nat) (shp : Nat → (Nat → Int32) → va_E) (σ : Nat → Nat → Int32) {x : Nat} (hX : DayS E G shp N x)  {lz : Nat} (hl : σ x 1 = nI lz) (h100 : lz ≤ 100) {m : Nat} (hw : tkB (σ (x + 1)) lz (nI 87) (nI 87) (0)) (hd : tkB (σ (x + 1)) lz (nI 49) (nI 51) (0 + 1)) (q9 : chrT (σ (x + 1)) lz (0 + 1) - nI 48 = nI m) (hm : m ≤ 3) (hp2 : ¬ (pacR (σ (x + 1)) lz (0 + 1 + 1) m).2)  : CS lu yX0_firstError wsX0_firstError { frames := 4, cells := 0, slots := 0, locals := 86 } Dg E N G shp σ [.ref (G x)] (some (.int (nI ((pacR (σ (x + 1)) lz (0 + 1 + 1) m).1)))) (st2 σ x 2 (nI (pacR (σ (x + 1)) lz (0 + 1 + 1) m).1)) := by
  refine CS.of (cc := cX0_firstError) (maxL := 2) (ret := (some .int)) (by decide) rfl (Nat.le_of_ble_eq_true rfl) ?_
  intro p_ e_ s_ m_ args_ below_ meth_ c_
  refine v_eq (pc' := 0) (st' := []) rfl rfl ?_
  refine v_loc [0] [(0, .ref (G x))] rfl ?_
  refine v_aload_n 0 dX0_firstError_0 rfl rfl ?_
  refine v_iconst (nI 0) dX0_firstError_1 (by decide +kernel) ?_
  refine u_puti (k := 2) (C := RX0) (T := TX0) (NF := 3) (ty := .int) hX.n hX.2.1 rfl rfl inX0_firstError_X0 tyX0 tyX0_ok nmX0 (by decide) (by decide +kernel) rfl rfl (by decide +kernel) rfl rfl dX0_firstError_2 ?_
  generalize hσ1 : st2 σ x 2 (nI 0) = σ1
  subst hσ1
  refine v_aload_n 0 dX0_firstError_5 rfl rfl ?_
  refine u_callVv [] [] 0 (c_X0_takeLines_0 lu Dg E N G shp σ hX (lz := lz) hl h100 (p := 0) (m := m) (by omega) hw hd q9 hm) (ci := 0) (C := RX0) (T := TX0) (NF := 3) hX.n hX.2.1 rfl gX0_firstError_X0_takeLines rfl rfl rfl (by decide +kernel) rfl ⟨Nat.le_of_ble_eq_true rfl, Nat.le_of_ble_eq_true rfl⟩ ⟨Nat.le_of_ble_eq_true rfl, Nat.le_of_ble_eq_true rfl⟩ (Nat.le_of_ble_eq_true rfl) rfl dX0_firstError_6 ?_
  refine v_if_neB 17 dX0_firstError_9 rfl (fun h9 => ?_) (fun h9 => ?_)
  · skip
    exact absurd h9 hp2
  · skip
    refine v_aload_n 0 dX0_firstError_12 rfl rfl ?_
    refine u_geti (k := 2) (C := RX0) (T := TX0) (NF := 3) hX.n hX.2.1 rfl rfl inX0_firstError_X0 (by decide) (by decide +kernel) rfl dX0_firstError_13 ?_
    refine v_topi (nI ((pacR (σ (x + 1)) lz (0 + 1 + 1) m).1)) (st2_same _ _ _ _) ?_
    refine v_iret rfl dX0_firstError_16 ⟨congrArg (fun z => some (Value.int z)) ?_, congrArg (φ shp) ?_⟩
    · rfl
    · rfl
