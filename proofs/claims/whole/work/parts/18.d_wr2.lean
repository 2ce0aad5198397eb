set_option maxHeartbeats 4000000 in
set_option maxRecDepth 100000 in
theorem w_jump_2 (lu : Launch) (Dg : va_G) (E : Nat → ClassId) (N : Nat) (G : Nat → Nat) (shp : Nat → (Nat → Int32) → va_E) (σ : Nat → Nat → Int32) (hS : StoodS E G shp N) (hN : 788 < N) (hO : shp 788 = LoS E 1) {p0 : Int32} {σ' : Nat → Nat → Int32} (hM : Thr2 lu yX5_jump wsX5_jump { frames := 7, cells := 1, slots := 6, locals := 161 } Dg E N G (φ shp σ) (φ shp σ') [.ref (G 0), .int p0] "java/lang/IllegalStateException") : CW lu yL_jump wsL_jump { frames := 8, cells := 1, slots := 6, locals := 182 } Dg E N G shp σ [.ref (G 0), .int p0, .ref (G 788)] (fun v τ => v = some (.int (nI 2)) ∧ τ = σ') := by
  refine CW.of (cc := cL_jump) (maxL := 4) (ret := (some .int)) (by decide) rfl (Nat.le_of_ble_eq_true rfl) ?_
  intro p_ e_ s_ m_ args_ below_ meth_ c_ hX9 hC9 htab9
  refine v_eq (pc' := 0) (st' := []) rfl rfl ?_
  refine v_loc [0, 1, 2] [(0, .ref (G 0)), (1, .int p0), (2, .ref (G 788))] rfl ?_
  refine v_aload_n 2 dL_jump_0 rfl rfl ?_
  refine v_iconst (nI 0) dL_jump_1 (by decide +kernel) ?_
  refine v_aload_n 0 dL_jump_2 rfl rfl ?_
  refine v_iload_n 1 dL_jump_3 rfl rfl ?_
  refine v_catchV (As := [.int p0]) (rest := [.int (nI 0), .ref (G 788)]) (ci := 5) (C := RX5) (T := TX5) (NF := 6) hX9 hM hS.o.1 (ob_Φ hS.o.2) rfl gL_jump_X5_jump rfl rfl rfl ⟨rfl, by decide +kernel, by decide +kernel, Eq.trans (b := some 1) (by decide +kernel) rfl⟩ ⟨Nat.le_of_ble_eq_true rfl, Nat.le_of_ble_eq_true rfl⟩ ⟨Nat.le_of_ble_eq_true rfl, Nat.le_of_ble_eq_true rfl⟩ (Nat.le_of_ble_eq_true rfl) rfl dL_jump_4 [⟨0, 9, 12, 28⟩] ⟨0, 9, 15, 15⟩ [] (htab9.trans rfl) (fun z9 h9 => by rw [List.mem_singleton] at h9; subst h9; exact Or.inr ⟨by decide, "java/lang/IndexOutOfBoundsException", by decide +kernel, hC9.2.1⟩) (by decide) (by decide) (by decide +kernel) (by decide +kernel) (fun q9 => ?_)
  refine v_astore_n [(3, .ref q9), (0, .ref (G 0)), (1, .int p0), (2, .ref (G 788))] dL_jump_15 rfl (by decide) rfl ?_
  refine v_iconst (nI 2) dL_jump_16 (by decide +kernel) ?_
  refine v_wide 1 6 (by decide) (by decide) ?_
  refine v_iret rfl dL_jump_17 ⟨σ', rfl, ⟨rfl, rfl⟩⟩

set_option maxHeartbeats 4000000 in
set_option maxRecDepth 100000 in
theorem w_merge_0 (lu : Launch) (Dg : va_G) (E : Nat → ClassId) (N : Nat) (G : Nat → Nat) (shp : Nat → (Nat → Int32) → va_E) (σ : Nat → Nat → Int32) (hS : StoodS E G shp N) (hN : 788 < N) (hO : shp 788 = LoS E 1) {p0 : Int32} {p1 : Int32} {P : Int32 → (Nat → Nat → Int32) → Prop} (hM : CX lu yX5_merge wsX5_merge { frames := 7, cells := 0, slots := 0, locals := 163 } Dg E N G shp σ [.ref (G 0), .int p0, .int p1] (fun v τ => ∃ x, v = some (.int x) ∧ P x τ)) : CW lu yL_merge wsL_merge { frames := 9, cells := 1, slots := 6, locals := 205 } Dg E N G shp σ [.ref (G 0), .int p0, .int p1, .ref (G 788)] (fun v τ => ∃ x τ0, v = some (.int (nI 0)) ∧ τ = st2 τ0 788 0 x ∧ P x τ0) := by
  refine CW.of (cc := cL_merge) (maxL := 5) (ret := (some .int)) (by decide) rfl (Nat.le_of_ble_eq_true rfl) ?_
  intro p_ e_ s_ m_ args_ below_ meth_ c_ hX9 hC9 htab9
  refine v_eq (pc' := 0) (st' := []) rfl rfl ?_
  refine v_loc [0, 1, 2, 3] [(0, .ref (G 0)), (1, .int p0), (2, .int p1), (3, .ref (G 788))] rfl ?_
  refine v_aload_n 3 dL_merge_0 rfl rfl ?_
  refine v_iconst (nI 0) dL_merge_1 (by decide +kernel) ?_
  refine v_aload_n 0 dL_merge_2 rfl rfl ?_
  refine v_iload_n 1 dL_merge_3 rfl rfl ?_
  refine v_iload_n 2 dL_merge_4 rfl rfl ?_
  refine u_callVx [.int p0, .int p1] [.int (nI 0), .ref (G 788)] 2 (hM) (ci := 5) (C := RX5) (T := TX5) (NF := 6) hS.o.1 hS.o.2 rfl gL_merge_X5_merge rfl rfl rfl (by decide +kernel) rfl ⟨Nat.le_of_ble_eq_true rfl, Nat.le_of_ble_eq_true rfl⟩ ⟨Nat.le_of_ble_eq_true rfl, Nat.le_of_ble_eq_true rfl⟩ (Nat.le_of_ble_eq_true rfl) rfl dL_merge_5 (fun v9 τ9 hp9 => ?_)
  obtain ⟨x9, rfl, hP9⟩ := hp9
  refine v_st (st' := [.int x9, .int (nI 0), .ref (G 788)]) rfl ?_
  refine v_i2l dL_merge_8 ?_
  refine u_last (v := x9) 0 hN hO rfl (by omega) (by decide) dL_merge_9 ?_
  generalize hσ1 : st2 τ9 788 0 (x9) = σ1
  refine v_goto 25 dL_merge_10 rfl ?_
  refine v_iconst (nI 0) dL_merge_25 (by decide +kernel) ?_
  refine v_wide 1 6 (by decide) (by decide) ?_
  refine v_iret rfl dL_merge_26 ⟨σ1, rfl, ⟨x9, τ9, rfl, hσ1.symm, hP9⟩⟩

set_option maxHeartbeats 4000000 in
set_option maxRecDepth 100000 in
theorem w_merge_1 (lu : Launch) (Dg : va_G) (E : Nat → ClassId) (N : Nat) (G : Nat → Nat) (shp : Nat → (Nat → Int32) → va_E) (σ : Nat → Nat → Int32) (hS : StoodS E G shp N) (hN : 788 < N) (hO : shp 788 = LoS E 1) {p0 : Int32} {p1 : Int32} {σ' : Nat → Nat → Int32} (hM : Thr2 lu yX5_merge wsX5_merge { frames := 8, cells := 1, slots := 6, locals := 183 } Dg E N G (φ shp σ) (φ shp σ') [.ref (G 0), .int p0, .int p1] "java/lang/IndexOutOfBoundsException") : CW lu yL_merge wsL_merge { frames := 9, cells := 1, slots := 6, locals := 205 } Dg E N G shp σ [.ref (G 0), .int p0, .int p1, .ref (G 788)] (fun v τ => v = some (.int (nI 1)) ∧ τ = σ') := by
  refine CW.of (cc := cL_merge) (maxL := 5) (ret := (some .int)) (by decide) rfl (Nat.le_of_ble_eq_true rfl) ?_
  intro p_ e_ s_ m_ args_ below_ meth_ c_ hX9 hC9 htab9
  refine v_eq (pc' := 0) (st' := []) rfl rfl ?_
  refine v_loc [0, 1, 2, 3] [(0, .ref (G 0)), (1, .int p0), (2, .int p1), (3, .ref (G 788))] rfl ?_
  refine v_aload_n 3 dL_merge_0 rfl rfl ?_
  refine v_iconst (nI 0) dL_merge_1 (by decide +kernel) ?_
  refine v_aload_n 0 dL_merge_2 rfl rfl ?_
  refine v_iload_n 1 dL_merge_3 rfl rfl ?_
  refine v_iload_n 2 dL_merge_4 rfl rfl ?_
  refine v_catchV (As := [.int p0, .int p1]) (rest := [.int (nI 0), .ref (G 788)]) (ci := 5) (C := RX5) (T := TX5) (NF := 6) hX9 hM hS.o.1 (ob_Φ hS.o.2) rfl gL_merge_X5_merge rfl rfl rfl ⟨rfl, by decide +kernel, by decide +kernel, Eq.trans (b := some 2) (by decide +kernel) rfl⟩ ⟨Nat.le_of_ble_eq_true rfl, Nat.le_of_ble_eq_true rfl⟩ ⟨Nat.le_of_ble_eq_true rfl, Nat.le_of_ble_eq_true rfl⟩ (Nat.le_of_ble_eq_true rfl) rfl dL_merge_5 [] ⟨0, 10, 13, 28⟩ [⟨0, 10, 17, 13⟩, ⟨0, 10, 21, 15⟩] (htab9.trans rfl) (fun _ h9 => absurd h9 List.not_mem_nil) (by decide) (by decide) (by decide +kernel) (by decide +kernel) (fun q9 => ?_)
  refine v_astore [(4, .ref q9), (0, .ref (G 0)), (1, .int p0), (2, .int p1), (3, .ref (G 788))] dL_merge_13 (by decide) rfl ?_
  refine v_iconst (nI 1) dL_merge_15 (by decide +kernel) ?_
  refine v_wide 1 6 (by decide) (by decide) ?_
  refine v_iret rfl dL_merge_16 ⟨σ', rfl, ⟨rfl, rfl⟩⟩

set_option maxHeartbeats 4000000 in
set_option maxRecDepth 100000 in
theorem w_merge_2 (lu : Launch) (Dg : va_G) (E : Nat → ClassId) (N : Nat) (G : Nat → Nat) (shp : Nat → (Nat → Int32) → va_E) (σ : Nat → Nat → Int32) (hS : StoodS E G shp N) (hN : 788 < N) (hO : shp 788 = LoS E 1) {p0 : Int32} {p1 : Int32} {σ' : Nat → Nat → Int32} (hM : Thr2 lu yX5_merge wsX5_merge { frames := 8, cells := 1, slots := 6, locals := 183 } Dg E N G (φ shp σ) (φ shp σ') [.ref (G 0), .int p0, .int p1] "java/lang/IllegalArgumentException") : CW lu yL_merge wsL_merge { frames := 9, cells := 1, slots := 6, locals := 205 } Dg E N G shp σ [.ref (G 0), .int p0, .int p1, .ref (G 788)] (fun v τ => v = some (.int (nI 2)) ∧ τ = σ') := by
  refine CW.of (cc := cL_merge) (maxL := 5) (ret := (some .int)) (by decide) rfl (Nat.le_of_ble_eq_true rfl) ?_
  intro p_ e_ s_ m_ args_ below_ meth_ c_ hX9 hC9 htab9
  refine v_eq (pc' := 0) (st' := []) rfl rfl ?_
  refine v_loc [0, 1, 2, 3] [(0, .ref (G 0)), (1, .int p0), (2, .int p1), (3, .ref (G 788))] rfl ?_
  refine v_aload_n 3 dL_merge_0 rfl rfl ?_
  refine v_iconst (nI 0) dL_merge_1 (by decide +kernel) ?_
  refine v_aload_n 0 dL_merge_2 rfl rfl ?_
  refine v_iload_n 1 dL_merge_3 rfl rfl ?_
  refine v_iload_n 2 dL_merge_4 rfl rfl ?_
  refine v_catchV (As := [.int p0, .int p1]) (rest := [.int (nI 0), .ref (G 788)]) (ci := 5) (C := RX5) (T := TX5) (NF := 6) hX9 hM hS.o.1 (ob_Φ hS.o.2) rfl gL_merge_X5_merge rfl rfl rfl ⟨rfl, by decide +kernel, by decide +kernel, Eq.trans (b := some 2) (by decide +kernel) rfl⟩ ⟨Nat.le_of_ble_eq_true rfl, Nat.le_of_ble_eq_true rfl⟩ ⟨Nat.le_of_ble_eq_true rfl, Nat.le_of_ble_eq_true rfl⟩ (Nat.le_of_ble_eq_true rfl) rfl dL_merge_5 [⟨0, 10, 13, 28⟩] ⟨0, 10, 17, 13⟩ [⟨0, 10, 21, 15⟩] (htab9.trans rfl) (fun z9 h9 => by rw [List.mem_singleton] at h9; subst h9; exact Or.inr ⟨by decide, "java/lang/IndexOutOfBoundsException", by decide +kernel, hC9.1⟩) (by decide) (by decide) (by decide +kernel) (by decide +kernel) (fun q9 => ?_)
  refine v_astore [(4, .ref q9), (0, .ref (G 0)), (1, .int p0), (2, .int p1), (3, .ref (G 788))] dL_merge_17 (by decide) rfl ?_
  refine v_iconst (nI 2) dL_merge_19 (by decide +kernel) ?_
  refine v_wide 1 6 (by decide) (by decide) ?_
  refine v_iret rfl dL_merge_20 ⟨σ', rfl, ⟨rfl, rfl⟩⟩

set_option maxHeartbeats 4000000 in
set_option maxRecDepth 100000 in
theorem w_merge_3 (lu : Launch) (Dg : va_G) (E : Nat → ClassId) (N : Nat) (G : Nat → Nat) (shp : Nat → (Nat → Int32) → va_E) (σ : Nat → Nat → Int32) (hS : StoodS E G shp N) (hN : 788 < N) (hO : shp 788 = LoS E 1) {p0 : Int32} {p1 : Int32} {σ' : Nat → Nat → Int32} (hM : Thr2 lu yX5_merge wsX5_merge { frames := 8, cells := 1, slots := 6, locals := 183 } Dg E N G (φ shp σ) (φ shp σ') [.ref (G 0), .int p0, .int p1] "java/lang/IllegalStateException") : CW lu yL_merge wsL_merge { frames := 9, cells := 1, slots := 6, locals := 205 } Dg E N G shp σ [.ref (G 0), .int p0, .int p1, .ref (G 788)] (fun v τ => v = some (.int (nI 3)) ∧ τ = σ') := by
  refine CW.of (cc := cL_merge) (maxL := 5) (ret := (some .int)) (by decide) rfl (Nat.le_of_ble_eq_true rfl) ?_
  intro p_ e_ s_ m_ args_ below_ meth_ c_ hX9 hC9 htab9
  refine v_eq (pc' := 0) (st' := []) rfl rfl ?_
  refine v_loc [0, 1, 2, 3] [(0, .ref (G 0)), (1, .int p0), (2, .int p1), (3, .ref (G 788))] rfl ?_
  refine v_aload_n 3 dL_merge_0 rfl rfl ?_
  refine v_iconst (nI 0) dL_merge_1 (by decide +kernel) ?_
  refine v_aload_n 0 dL_merge_2 rfl rfl ?_
  refine v_iload_n 1 dL_merge_3 rfl rfl ?_
  refine v_iload_n 2 dL_merge_4 rfl rfl ?_
  refine v_catchV (As := [.int p0, .int p1]) (rest := [.int (nI 0), .ref (G 788)]) (ci := 5) (C := RX5) (T := TX5) (NF := 6) hX9 hM hS.o.1 (ob_Φ hS.o.2) rfl gL_merge_X5_merge rfl rfl rfl ⟨rfl, by decide +kernel, by decide +kernel, Eq.trans (b := some 2) (by decide +kernel) rfl⟩ ⟨Nat.le_of_ble_eq_true rfl, Nat.le_of_ble_eq_true rfl⟩ ⟨Nat.le_of_ble_eq_true rfl, Nat.le_of_ble_eq_true rfl⟩ (Nat.le_of_ble_eq_true rfl) rfl dL_merge_5 [⟨0, 10, 13, 28⟩, ⟨0, 10, 17, 13⟩] ⟨0, 10, 21, 15⟩ [] (htab9.trans rfl) (fun z9 h9 => (List.mem_cons.mp h9).elim (fun h9 => by subst h9; exact Or.inr ⟨by decide, "java/lang/IndexOutOfBoundsException", by decide +kernel, hC9.2.1⟩) (fun h9 => by rw [List.mem_singleton] at h9; subst h9; exact Or.inr ⟨by decide, "java/lang/IllegalArgumentException", by decide +kernel, hC9.2.2⟩)) (by decide) (by decide) (by decide +kernel) (by decide +kernel) (fun q9 => ?_)
  refine v_astore [(4, .ref q9), (0, .ref (G 0)), (1, .int p0), (2, .int p1), (3, .ref (G 788))] dL_merge_21 (by decide) rfl ?_
  refine v_iconst (nI 3) dL_merge_23 (by decide +kernel) ?_
  refine v_wide 1 6 (by decide) (by decide) ?_
  refine v_iret rfl dL_merge_24 ⟨σ', rfl, ⟨rfl, rfl⟩⟩

set_option maxHeartbeats 4000000 in
set_option maxRecDepth 100000 in
theorem w_minutes_0 (lu : Launch) (Dg : va_G) (E : Nat → ClassId) (N : Nat) (G : Nat → Nat) (shp : Nat → (Nat → Int32) → va_E) (σ : Nat → Nat → Int32) (hS : StoodS E G shp N) (hN : 788 < N) (hO : shp 788 = LoS E 1) {p0 : Int32} {P : Int32 → (Nat → Nat → Int32) → Prop} (hM : CX lu yX5_minutes wsX5_minutes { frames := 5, cells := 0, slots := 0, locals := 120 } Dg E N G shp σ [.ref (G 0), .int p0] (fun v τ => ∃ x, v = some (.int x) ∧ P x τ)) : CW lu yL_minutes wsL_minutes { frames := 7, cells := 1, slots := 6, locals := 161 } Dg E N G shp σ [.ref (G 0), .int p0, .ref (G 788)] (fun v τ => ∃ x τ0, v = some (.int (nI 0)) ∧ τ = st2 τ0 788 0 x ∧ P x τ0) := by
  refine CW.of (cc := cL_minutes) (maxL := 4) (ret := (some .int)) (by decide) rfl (Nat.le_of_ble_eq_true rfl) ?_
  intro p_ e_ s_ m_ args_ below_ meth_ c_ hX9 hC9 htab9
  refine v_eq (pc' := 0) (st' := []) rfl rfl ?_
  refine v_loc [0, 1, 2] [(0, .ref (G 0)), (1, .int p0), (2, .ref (G 788))] rfl ?_
  refine v_aload_n 2 dL_minutes_0 rfl rfl ?_
  refine v_iconst (nI 0) dL_minutes_1 (by decide +kernel) ?_
  refine v_aload_n 0 dL_minutes_2 rfl rfl ?_
  refine v_iload_n 1 dL_minutes_3 rfl rfl ?_
  refine u_callVx [.int p0] [.int (nI 0), .ref (G 788)] 1 (hM) (ci := 5) (C := RX5) (T := TX5) (NF := 6) hS.o.1 hS.o.2 rfl gL_minutes_X5_minutes rfl rfl rfl (by decide +kernel) rfl ⟨Nat.le_of_ble_eq_true rfl, Nat.le_of_ble_eq_true rfl⟩ ⟨Nat.le_of_ble_eq_true rfl, Nat.le_of_ble_eq_true rfl⟩ (Nat.le_of_ble_eq_true rfl) rfl dL_minutes_4 (fun v9 τ9 hp9 => ?_)
  obtain ⟨x9, rfl, hP9⟩ := hp9
  refine v_st (st' := [.int x9, .int (nI 0), .ref (G 788)]) rfl ?_
  refine v_i2l dL_minutes_7 ?_
  refine u_last (v := x9) 0 hN hO rfl (by omega) (by decide) dL_minutes_8 ?_
  generalize hσ1 : st2 τ9 788 0 (x9) = σ1
  refine v_goto 15 dL_minutes_9 rfl ?_
  refine v_iconst (nI 0) dL_minutes_15 (by decide +kernel) ?_
  refine v_wide 1 6 (by decide) (by decide) ?_
  refine v_iret rfl dL_minutes_16 ⟨σ1, rfl, ⟨x9, τ9, rfl, hσ1.symm, hP9⟩⟩

set_option maxHeartbeats 4000000 in
set_option maxRecDepth 100000 in
theorem w_minutes_1 (lu : Launch) (Dg : va_G) (E : Nat → ClassId) (N : Nat) (G : Nat → Nat) (shp : Nat → (Nat → Int32) → va_E) (σ : Nat → Nat → Int32) (hS : StoodS E G shp N) (hN : 788 < N) (hO : shp 788 = LoS E 1) {p0 : Int32} {σ' : Nat → Nat → Int32} (hM : Thr2 lu yX5_minutes wsX5_minutes { frames := 6, cells := 1, slots := 6, locals := 140 } Dg E N G (φ shp σ) (φ shp σ') [.ref (G 0), .int p0] "java/lang/IllegalArgumentException") : CW lu yL_minutes wsL_minutes { frames := 7, cells := 1, slots := 6, locals := 161 } Dg E N G shp σ [.ref (G 0), .int p0, .ref (G 788)] (fun v τ => v = some (.int (nI 1)) ∧ τ = σ') := by
  refine CW.of (cc := cL_minutes) (maxL := 4) (ret := (some .int)) (by decide) rfl (Nat.le_of_ble_eq_true rfl) ?_
  intro p_ e_ s_ m_ args_ below_ meth_ c_ hX9 hC9 htab9
  refine v_eq (pc' := 0) (st' := []) rfl rfl ?_
  refine v_loc [0, 1, 2] [(0, .ref (G 0)), (1, .int p0), (2, .ref (G 788))] rfl ?_
  refine v_aload_n 2 dL_minutes_0 rfl rfl ?_
  refine v_iconst (nI 0) dL_minutes_1 (by decide +kernel) ?_
  refine v_aload_n 0 dL_minutes_2 rfl rfl ?_
  refine v_iload_n 1 dL_minutes_3 rfl rfl ?_
  refine v_catchV (As := [.int p0]) (rest := [.int (nI 0), .ref (G 788)]) (ci := 5) (C := RX5) (T := TX5) (NF := 6) hX9 hM hS.o.1 (ob_Φ hS.o.2) rfl gL_minutes_X5_minutes rfl rfl rfl ⟨rfl, by decide +kernel, by decide +kernel, Eq.trans (b := some 1) (by decide +kernel) rfl⟩ ⟨Nat.le_of_ble_eq_true rfl, Nat.le_of_ble_eq_true rfl⟩ ⟨Nat.le_of_ble_eq_true rfl, Nat.le_of_ble_eq_true rfl⟩ (Nat.le_of_ble_eq_true rfl) rfl dL_minutes_4 [] ⟨0, 9, 12, 13⟩ [] (htab9.trans rfl) (fun _ h9 => absurd h9 List.not_mem_nil) (by decide) (by decide) (by decide +kernel) (by decide +kernel) (fun q9 => ?_)
  refine v_astore_n [(3, .ref q9), (0, .ref (G 0)), (1, .int p0), (2, .ref (G 788))] dL_minutes_12 rfl (by decide) rfl ?_
  refine v_iconst (nI 1) dL_minutes_13 (by decide +kernel) ?_
  refine v_wide 1 6 (by decide) (by decide) ?_
  refine v_iret rfl dL_minutes_14 ⟨σ', rfl, ⟨rfl, rfl⟩⟩

set_option maxHeartbeats 4000000 in
set_option maxRecDepth 100000 in
theorem w_set_0 (lu : Launch) (Dg : va_G) (E : Nat → ClassId) (N : Nat) (G : Nat → Nat) (shp : Nat → (Nat → Int32) → va_E) (σ : Nat → Nat → Int32) (hS : StoodS E G shp N) (hN : 788 < N) (hO : shp 788 = LoS E 1) {p0 : Int32} {p1 : Int32} {P : Int32 → (Nat → Nat → Int32) → Prop} (hM : CX lu yX5_set wsX5_set { frames := 6, cells := 0, slots := 0, locals := 140 } Dg E N G shp σ [.ref (G 0), .int p0, .int p1] (fun v τ => ∃ x, v = some (.int x) ∧ P x τ)) : CW lu yL_set wsL_set { frames := 8, cells := 1, slots := 6, locals := 182 } Dg E N G shp σ [.ref (G 0), .int p0, .int p1, .ref (G 788)] (fun v τ => ∃ x τ0, v = some (.int (nI 0)) ∧ τ = st2 τ0 788 0 x ∧ P x τ0) := by
  refine CW.of (cc := cL_set) (maxL := 5) (ret := (some .int)) (by decide) rfl (Nat.le_of_ble_eq_true rfl) ?_
  intro p_ e_ s_ m_ args_ below_ meth_ c_ hX9 hC9 htab9
  refine v_eq (pc' := 0) (st' := []) rfl rfl ?_
  refine v_loc [0, 1, 2, 3] [(0, .ref (G 0)), (1, .int p0), (2, .int p1), (3, .ref (G 788))] rfl ?_
  refine v_aload_n 3 dL_set_0 rfl rfl ?_
  refine v_iconst (nI 0) dL_set_1 (by decide +kernel) ?_
  refine v_aload_n 0 dL_set_2 rfl rfl ?_
  refine v_iload_n 1 dL_set_3 rfl rfl ?_
  refine v_iload_n 2 dL_set_4 rfl rfl ?_
  refine u_callVx [.int p0, .int p1] [.int (nI 0), .ref (G 788)] 2 (hM) (ci := 5) (C := RX5) (T := TX5) (NF := 6) hS.o.1 hS.o.2 rfl gL_set_X5_set rfl rfl rfl (by decide +kernel) rfl ⟨Nat.le_of_ble_eq_true rfl, Nat.le_of_ble_eq_true rfl⟩ ⟨Nat.le_of_ble_eq_true rfl, Nat.le_of_ble_eq_true rfl⟩ (Nat.le_of_ble_eq_true rfl) rfl dL_set_5 (fun v9 τ9 hp9 => ?_)
  obtain ⟨x9, rfl, hP9⟩ := hp9
  refine v_st (st' := [.int x9, .int (nI 0), .ref (G 788)]) rfl ?_
  refine v_i2l dL_set_8 ?_
  refine u_last (v := x9) 0 hN hO rfl (by omega) (by decide) dL_set_9 ?_
  generalize hσ1 : st2 τ9 788 0 (x9) = σ1
  refine v_goto 17 dL_set_10 rfl ?_
  refine v_iconst (nI 0) dL_set_17 (by decide +kernel) ?_
  refine v_wide 1 6 (by decide) (by decide) ?_
  refine v_iret rfl dL_set_18 ⟨σ1, rfl, ⟨x9, τ9, rfl, hσ1.symm, hP9⟩⟩

set_option maxHeartbeats 4000000 in
set_option maxRecDepth 100000 in
theorem w_set_1 (lu : Launch) (Dg : va_G) (E : Nat → ClassId) (N : Nat) (G : Nat → Nat) (shp : Nat → (Nat → Int32) → va_E) (σ : Nat → Nat → Int32) (hS : StoodS E G shp N) (hN : 788 < N) (hO : shp 788 = LoS E 1) {p0 : Int32} {p1 : Int32} {σ' : Nat → Nat → Int32} (hM : Thr2 lu yX5_set wsX5_set { frames := 7, cells := 1, slots := 6, locals := 160 } Dg E N G (φ shp σ) (φ shp σ') [.ref (G 0), .int p0, .int p1] "java/lang/IllegalArgumentException") : CW lu yL_set wsL_set { frames := 8, cells := 1, slots := 6, locals := 182 } Dg E N G shp σ [.ref (G 0), .int p0, .int p1, .ref (G 788)] (fun v τ => v = some (.int (nI 1)) ∧ τ = σ') := by
  refine CW.of (cc := cL_set) (maxL := 5) (ret := (some .int)) (by decide) rfl (Nat.le_of_ble_eq_true rfl) ?_
  intro p_ e_ s_ m_ args_ below_ meth_ c_ hX9 hC9 htab9
  refine v_eq (pc' := 0) (st' := []) rfl rfl ?_
  refine v_loc [0, 1, 2, 3] [(0, .ref (G 0)), (1, .int p0), (2, .int p1), (3, .ref (G 788))] rfl ?_
  refine v_aload_n 3 dL_set_0 rfl rfl ?_
  refine v_iconst (nI 0) dL_set_1 (by decide +kernel) ?_
  refine v_aload_n 0 dL_set_2 rfl rfl ?_
  refine v_iload_n 1 dL_set_3 rfl rfl ?_
  refine v_iload_n 2 dL_set_4 rfl rfl ?_
  refine v_catchV (As := [.int p0, .int p1]) (rest := [.int (nI 0), .ref (G 788)]) (ci := 5) (C := RX5) (T := TX5) (NF := 6) hX9 hM hS.o.1 (ob_Φ hS.o.2) rfl gL_set_X5_set rfl rfl rfl ⟨rfl, by decide +kernel, by decide +kernel, Eq.trans (b := some 2) (by decide +kernel) rfl⟩ ⟨Nat.le_of_ble_eq_true rfl, Nat.le_of_ble_eq_true rfl⟩ ⟨Nat.le_of_ble_eq_true rfl, Nat.le_of_ble_eq_true rfl⟩ (Nat.le_of_ble_eq_true rfl) rfl dL_set_5 [] ⟨0, 10, 13, 13⟩ [] (htab9.trans rfl) (fun _ h9 => absurd h9 List.not_mem_nil) (by decide) (by decide) (by decide +kernel) (by decide +kernel) (fun q9 => ?_)
  refine v_astore [(4, .ref q9), (0, .ref (G 0)), (1, .int p0), (2, .int p1), (3, .ref (G 788))] dL_set_13 (by decide) rfl ?_
  refine v_iconst (nI 1) dL_set_15 (by decide +kernel) ?_
  refine v_wide 1 6 (by decide) (by decide) ?_
  refine v_iret rfl dL_set_16 ⟨σ', rfl, ⟨rfl, rfl⟩⟩

set_option maxHeartbeats 4000000 in
set_option maxRecDepth 100000 in
theorem w_undo_0 (lu : Launch) (Dg : va_G) (E : Nat → ClassId) (N : Nat) (G : Nat → Nat) (shp : Nat → (Nat → Int32) → va_E) (σ : Nat → Nat → Int32) (hS : StoodS E G shp N) (hN : 788 < N) (hO : shp 788 = LoS E 1)  {P : Int32 → (Nat → Nat → Int32) → Prop} (hM : CX lu yX5_undo wsX5_undo { frames := 5, cells := 0, slots := 0, locals := 120 } Dg E N G shp σ [.ref (G 0)] (fun v τ => ∃ x, v = some (.int x) ∧ P x τ)) : CW lu yL_undo wsL_undo { frames := 7, cells := 1, slots := 6, locals := 160 } Dg E N G shp σ [.ref (G 0), .ref (G 788)] (fun v τ => ∃ x τ0, v = some (.int (nI 0)) ∧ τ = st2 τ0 788 0 x ∧ P x τ0) := by
  refine CW.of (cc := cL_undo) (maxL := 3) (ret := (some .int)) (by decide) rfl (Nat.le_of_ble_eq_true rfl) ?_
  intro p_ e_ s_ m_ args_ below_ meth_ c_ hX9 hC9 htab9
  refine v_eq (pc' := 0) (st' := []) rfl rfl ?_
  refine v_loc [0, 1] [(0, .ref (G 0)), (1, .ref (G 788))] rfl ?_
  refine v_aload_n 1 dL_undo_0 rfl rfl ?_
  refine v_iconst (nI 0) dL_undo_1 (by decide +kernel) ?_
  refine v_aload_n 0 dL_undo_2 rfl rfl ?_
  refine u_callVx [] [.int (nI 0), .ref (G 788)] 0 (hM) (ci := 5) (C := RX5) (T := TX5) (NF := 6) hS.o.1 hS.o.2 rfl gL_undo_X5_undo rfl rfl rfl (by decide +kernel) rfl ⟨Nat.le_of_ble_eq_true rfl, Nat.le_of_ble_eq_true rfl⟩ ⟨Nat.le_of_ble_eq_true rfl, Nat.le_of_ble_eq_true rfl⟩ (Nat.le_of_ble_eq_true rfl) rfl dL_undo_3 (fun v9 τ9 hp9 => ?_)
  obtain ⟨x9, rfl, hP9⟩ := hp9
  refine v_st (st' := [.int x9, .int (nI 0), .ref (G 788)]) rfl ?_
  refine v_i2l dL_undo_6 ?_
  refine u_last (v := x9) 0 hN hO rfl (by omega) (by decide) dL_undo_7 ?_
  generalize hσ1 : st2 τ9 788 0 (x9) = σ1
  refine v_goto 14 dL_undo_8 rfl ?_
  refine v_iconst (nI 0) dL_undo_14 (by decide +kernel) ?_
  refine v_wide 1 6 (by decide) (by decide) ?_
  refine v_iret rfl dL_undo_15 ⟨σ1, rfl, ⟨x9, τ9, rfl, hσ1.symm, hP9⟩⟩

set_option maxHeartbeats 4000000 in
set_option maxRecDepth 100000 in
theorem w_undo_1 (lu : Launch) (Dg : va_G) (E : Nat → ClassId) (N : Nat) (G : Nat → Nat) (shp : Nat → (Nat → Int32) → va_E) (σ : Nat → Nat → Int32) (hS : StoodS E G shp N) (hN : 788 < N) (hO : shp 788 = LoS E 1)  {σ' : Nat → Nat → Int32} (hM : Thr2 lu yX5_undo wsX5_undo { frames := 6, cells := 1, slots := 6, locals := 140 } Dg E N G (φ shp σ) (φ shp σ') [.ref (G 0)] "java/lang/IllegalStateException") : CW lu yL_undo wsL_undo { frames := 7, cells := 1, slots := 6, locals := 160 } Dg E N G shp σ [.ref (G 0), .ref (G 788)] (fun v τ => v = some (.int (nI 1)) ∧ τ = σ') := by
  refine CW.of (cc := cL_undo) (maxL := 3) (ret := (some .int)) (by decide) rfl (Nat.le_of_ble_eq_true rfl) ?_
  intro p_ e_ s_ m_ args_ below_ meth_ c_ hX9 hC9 htab9
  refine v_eq (pc' := 0) (st' := []) rfl rfl ?_
  refine v_loc [0, 1] [(0, .ref (G 0)), (1, .ref (G 788))] rfl ?_
  refine v_aload_n 1 dL_undo_0 rfl rfl ?_
  refine v_iconst (nI 0) dL_undo_1 (by decide +kernel) ?_
  refine v_aload_n 0 dL_undo_2 rfl rfl ?_
  refine v_catchV (As := []) (rest := [.int (nI 0), .ref (G 788)]) (ci := 5) (C := RX5) (T := TX5) (NF := 6) hX9 hM hS.o.1 (ob_Φ hS.o.2) rfl gL_undo_X5_undo rfl rfl rfl ⟨rfl, by decide +kernel, by decide +kernel, Eq.trans (b := some 0) (by decide +kernel) rfl⟩ ⟨Nat.le_of_ble_eq_true rfl, Nat.le_of_ble_eq_true rfl⟩ ⟨Nat.le_of_ble_eq_true rfl, Nat.le_of_ble_eq_true rfl⟩ (Nat.le_of_ble_eq_true rfl) rfl dL_undo_3 [] ⟨0, 8, 11, 15⟩ [] (htab9.trans rfl) (fun _ h9 => absurd h9 List.not_mem_nil) (by decide) (by decide) (by decide +kernel) (by decide +kernel) (fun q9 => ?_)
  refine v_astore_n [(2, .ref q9), (0, .ref (G 0)), (1, .ref (G 788))] dL_undo_11 rfl (by decide) rfl ?_
  refine v_iconst (nI 1) dL_undo_12 (by decide +kernel) ?_
  refine v_wide 1 6 (by decide) (by decide) ?_
  refine v_iret rfl dL_undo_13 ⟨σ', rfl, ⟨rfl, rfl⟩⟩

set_option maxHeartbeats 4000000 in
set_option maxRecDepth 100000 in
theorem w_servedIn_0 (lu : Launch) (Dg : va_G) (E : Nat → ClassId) (N : Nat) (G : Nat → Nat) (shp : Nat → (Nat → Int32) → va_E) (σ : Nat → Nat → Int32) (hS : StoodS E G shp N) (hN : 788 < N) (hO : shp 788 = LoS E 1) {p0 : Int32} {P : Int32 → (Nat → Nat → Int32) → Prop} (hM : CX lu yX5_servedIn wsX5_servedIn { frames := 7, cells := 0, slots := 0, locals := 162 } Dg E N G shp σ [.ref (G 0), .int p0] (fun v τ => ∃ x, v = some (.int x) ∧ P x τ)) : CW lu yL_servedIn wsL_servedIn { frames := 9, cells := 1, slots := 6, locals := 203 } Dg E N G shp σ [.ref (G 0), .int p0, .ref (G 788)] (fun v τ => ∃ x τ0, v = some (.int (nI 0)) ∧ τ = st2 τ0 788 0 x ∧ P x τ0) := by
  refine CW.of (cc := cL_servedIn) (maxL := 4) (ret := (some .int)) (by decide) rfl (Nat.le_of_ble_eq_true rfl) ?_
  intro p_ e_ s_ m_ args_ below_ meth_ c_ hX9 hC9 htab9
  refine v_eq (pc' := 0) (st' := []) rfl rfl ?_
  refine v_loc [0, 1, 2] [(0, .ref (G 0)), (1, .int p0), (2, .ref (G 788))] rfl ?_
  refine v_aload_n 2 dL_servedIn_0 rfl rfl ?_
  refine v_iconst (nI 0) dL_servedIn_1 (by decide +kernel) ?_
  refine v_aload_n 0 dL_servedIn_2 rfl rfl ?_
  refine v_iload_n 1 dL_servedIn_3 rfl rfl ?_
  refine u_callVx [.int p0] [.int (nI 0), .ref (G 788)] 1 (hM) (ci := 5) (C := RX5) (T := TX5) (NF := 6) hS.o.1 hS.o.2 rfl gL_servedIn_X5_servedIn rfl rfl rfl (by decide +kernel) rfl ⟨Nat.le_of_ble_eq_true rfl, Nat.le_of_ble_eq_true rfl⟩ ⟨Nat.le_of_ble_eq_true rfl, Nat.le_of_ble_eq_true rfl⟩ (Nat.le_of_ble_eq_true rfl) rfl dL_servedIn_4 (fun v9 τ9 hp9 => ?_)
  obtain ⟨x9, rfl, hP9⟩ := hp9
  refine v_st (st' := [.int x9, .int (nI 0), .ref (G 788)]) rfl ?_
  refine v_i2l dL_servedIn_7 ?_
  refine u_last (v := x9) 0 hN hO rfl (by omega) (by decide) dL_servedIn_8 ?_
  generalize hσ1 : st2 τ9 788 0 (x9) = σ1
  refine v_goto 18 dL_servedIn_9 rfl ?_
  refine v_iconst (nI 0) dL_servedIn_18 (by decide +kernel) ?_
  refine v_wide 1 6 (by decide) (by decide) ?_
  refine v_iret rfl dL_servedIn_19 ⟨σ1, rfl, ⟨x9, τ9, rfl, hσ1.symm, hP9⟩⟩

set_option maxHeartbeats 4000000 in
set_option maxRecDepth 100000 in
theorem w_servedIn_1 (lu : Launch) (Dg : va_G) (E : Nat → ClassId) (N : Nat) (G : Nat → Nat) (shp : Nat → (Nat → Int32) → va_E) (σ : Nat → Nat → Int32) (hS : StoodS E G shp N) (hN : 788 < N) (hO : shp 788 = LoS E 1) {p0 : Int32} {σ' : Nat → Nat → Int32} (hM : Thr2 lu yX5_servedIn wsX5_servedIn { frames := 8, cells := 1, slots := 6, locals := 182 } Dg E N G (φ shp σ) (φ shp σ') [.ref (G 0), .int p0] "java/lang/IndexOutOfBoundsException") : CW lu yL_servedIn wsL_servedIn { frames := 9, cells := 1, slots := 6, locals := 203 } Dg E N G shp σ [.ref (G 0), .int p0, .ref (G 788)] (fun v τ => v = some (.int (nI 1)) ∧ τ = σ') := by
  refine CW.of (cc := cL_servedIn) (maxL := 4) (ret := (some .int)) (by decide) rfl (Nat.le_of_ble_eq_true rfl) ?_
  intro p_ e_ s_ m_ args_ below_ meth_ c_ hX9 hC9 htab9
  refine v_eq (pc' := 0) (st' := []) rfl rfl ?_
  refine v_loc [0, 1, 2] [(0, .ref (G 0)), (1, .int p0), (2, .ref (G 788))] rfl ?_
  refine v_aload_n 2 dL_servedIn_0 rfl rfl ?_
  refine v_iconst (nI 0) dL_servedIn_1 (by decide +kernel) ?_
  refine v_aload_n 0 dL_servedIn_2 rfl rfl ?_
  refine v_iload_n 1 dL_servedIn_3 rfl rfl ?_
  refine v_catchV (As := [.int p0]) (rest := [.int (nI 0), .ref (G 788)]) (ci := 5) (C := RX5) (T := TX5) (NF := 6) hX9 hM hS.o.1 (ob_Φ hS.o.2) rfl gL_servedIn_X5_servedIn rfl rfl rfl ⟨rfl, by decide +kernel, by decide +kernel, Eq.trans (b := some 1) (by decide +kernel) rfl⟩ ⟨Nat.le_of_ble_eq_true rfl, Nat.le_of_ble_eq_true rfl⟩ ⟨Nat.le_of_ble_eq_true rfl, Nat.le_of_ble_eq_true rfl⟩ (Nat.le_of_ble_eq_true rfl) rfl dL_servedIn_4 [] ⟨0, 9, 12, 28⟩ [⟨0, 9, 15, 15⟩] (htab9.trans rfl) (fun _ h9 => absurd h9 List.not_mem_nil) (by decide) (by decide) (by decide +kernel) (by decide +kernel) (fun q9 => ?_)
  refine v_astore_n [(3, .ref q9), (0, .ref (G 0)), (1, .int p0), (2, .ref (G 788))] dL_servedIn_12 rfl (by decide) rfl ?_
  refine v_iconst (nI 1) dL_servedIn_13 (by decide +kernel) ?_
  refine v_wide 1 6 (by decide) (by decide) ?_
  refine v_iret rfl dL_servedIn_14 ⟨σ', rfl, ⟨rfl, rfl⟩⟩

set_option maxHeartbeats 4000000 in
set_option maxRecDepth 100000 in
theorem w_servedIn_2 (lu : Launch) (Dg : va_G) (E : Nat → ClassId) (N : Nat) (G : Nat → Nat) (shp : Nat → (Nat → Int32) → va_E) (σ : Nat → Nat → Int32) (hS : StoodS E G shp N) (hN : 788 < N) (hO : shp 788 = LoS E 1) {p0 : Int32} {σ' : Nat → Nat → Int32} (hM : Thr2 lu yX5_servedIn wsX5_servedIn { frames := 8, cells := 1, slots := 6, locals := 182 } Dg E N G (φ shp σ) (φ shp σ') [.ref (G 0), .int p0] "java/lang/IllegalStateException") : CW lu yL_servedIn wsL_servedIn { frames := 9, cells := 1, slots := 6, locals := 203 } Dg E N G shp σ [.ref (G 0), .int p0, .ref (G 788)] (fun v τ => v = some (.int (nI 2)) ∧ τ = σ') := by
  refine CW.of (cc := cL_servedIn) (maxL := 4) (ret := (some .int)) (by decide) rfl (Nat.le_of_ble_eq_true rfl) ?_
  intro p_ e_ s_ m_ args_ below_ meth_ c_ hX9 hC9 htab9
  refine v_eq (pc' := 0) (st' := []) rfl rfl ?_
  refine v_loc [0, 1, 2] [(0, .ref (G 0)), (1, .int p0), (2, .ref (G 788))] rfl ?_
  refine v_aload_n 2 dL_servedIn_0 rfl rfl ?_
  refine v_iconst (nI 0) dL_servedIn_1 (by decide +kernel) ?_
  refine v_aload_n 0 dL_servedIn_2 rfl rfl ?_
  refine v_iload_n 1 dL_servedIn_3 rfl rfl ?_
  refine v_catchV (As := [.int p0]) (rest := [.int (nI 0), .ref (G 788)]) (ci := 5) (C := RX5) (T := TX5) (NF := 6) hX9 hM hS.o.1 (ob_Φ hS.o.2) rfl gL_servedIn_X5_servedIn rfl rfl rfl ⟨rfl, by decide +kernel, by decide +kernel, Eq.trans (b := some 1) (by decide +kernel) rfl⟩ ⟨Nat.le_of_ble_eq_true rfl, Nat.le_of_ble_eq_true rfl⟩ ⟨Nat.le_of_ble_eq_true rfl, Nat.le_of_ble_eq_true rfl⟩ (Nat.le_of_ble_eq_true rfl) rfl dL_servedIn_4 [⟨0, 9, 12, 28⟩] ⟨0, 9, 15, 15⟩ [] (htab9.trans rfl) (fun z9 h9 => by rw [List.mem_singleton] at h9; subst h9; exact Or.inr ⟨by decide, "java/lang/IndexOutOfBoundsException", by decide +kernel, hC9.2.1⟩) (by decide) (by decide) (by decide +kernel) (by decide +kernel) (fun q9 => ?_)
  refine v_astore_n [(3, .ref q9), (0, .ref (G 0)), (1, .int p0), (2, .ref (G 788))] dL_servedIn_15 rfl (by decide) rfl ?_
  refine v_iconst (nI 2) dL_servedIn_16 (by decide +kernel) ?_
  refine v_wide 1 6 (by decide) (by decide) ?_
  refine v_iret rfl dL_servedIn_17 ⟨σ', rfl, ⟨rfl, rfl⟩⟩

set_option maxHeartbeats 4000000 in
set_option maxRecDepth 100000 in
theorem w_willPay_0 (lu : Launch) (Dg : va_G) (E : Nat → ClassId) (N : Nat) (G : Nat → Nat) (shp : Nat → (Nat → Int32) → va_E) (σ : Nat → Nat → Int32) (hS : StoodS E G shp N) (hN : 788 < N) (hO : shp 788 = LoS E 1) {p0 : Int32} {P : Int32 → (Nat → Nat → Int32) → Prop} (hM : CX lu yX5_willPay wsX5_willPay { frames := 5, cells := 0, slots := 0, locals := 120 } Dg E N G shp σ [.ref (G 0), .int p0] (fun v τ => ∃ x, v = some (.int x) ∧ P x τ)) : CW lu yL_willPay wsL_willPay { frames := 7, cells := 1, slots := 6, locals := 161 } Dg E N G shp σ [.ref (G 0), .int p0, .ref (G 788)] (fun v τ => ∃ x τ0, v = some (.int (nI 0)) ∧ τ = st2 τ0 788 0 x ∧ P x τ0) := by
  refine CW.of (cc := cL_willPay) (maxL := 4) (ret := (some .int)) (by decide) rfl (Nat.le_of_ble_eq_true rfl) ?_
  intro p_ e_ s_ m_ args_ below_ meth_ c_ hX9 hC9 htab9
  refine v_eq (pc' := 0) (st' := []) rfl rfl ?_
  refine v_loc [0, 1, 2] [(0, .ref (G 0)), (1, .int p0), (2, .ref (G 788))] rfl ?_
  refine v_aload_n 2 dL_willPay_0 rfl rfl ?_
  refine v_iconst (nI 0) dL_willPay_1 (by decide +kernel) ?_
  refine v_aload_n 0 dL_willPay_2 rfl rfl ?_
  refine v_iload_n 1 dL_willPay_3 rfl rfl ?_
  refine u_callVx [.int p0] [.int (nI 0), .ref (G 788)] 1 (hM) (ci := 5) (C := RX5) (T := TX5) (NF := 6) hS.o.1 hS.o.2 rfl gL_willPay_X5_willPay rfl rfl rfl (by decide +kernel) rfl ⟨Nat.le_of_ble_eq_true rfl, Nat.le_of_ble_eq_true rfl⟩ ⟨Nat.le_of_ble_eq_true rfl, Nat.le_of_ble_eq_true rfl⟩ (Nat.le_of_ble_eq_true rfl) rfl dL_willPay_4 (fun v9 τ9 hp9 => ?_)
  obtain ⟨x9, rfl, hP9⟩ := hp9
  refine v_st (st' := [.int x9, .int (nI 0), .ref (G 788)]) rfl ?_
  refine v_i2l dL_willPay_7 ?_
  refine u_last (v := x9) 0 hN hO rfl (by omega) (by decide) dL_willPay_8 ?_
  generalize hσ1 : st2 τ9 788 0 (x9) = σ1
  refine v_goto 15 dL_willPay_9 rfl ?_
  refine v_iconst (nI 0) dL_willPay_15 (by decide +kernel) ?_
  refine v_wide 1 6 (by decide) (by decide) ?_
  refine v_iret rfl dL_willPay_16 ⟨σ1, rfl, ⟨x9, τ9, rfl, hσ1.symm, hP9⟩⟩

set_option maxHeartbeats 4000000 in
set_option maxRecDepth 100000 in
theorem w_willPay_1 (lu : Launch) (Dg : va_G) (E : Nat → ClassId) (N : Nat) (G : Nat → Nat) (shp : Nat → (Nat → Int32) → va_E) (σ : Nat → Nat → Int32) (hS : StoodS E G shp N) (hN : 788 < N) (hO : shp 788 = LoS E 1) {p0 : Int32} {σ' : Nat → Nat → Int32} (hM : Thr2 lu yX5_willPay wsX5_willPay { frames := 6, cells := 1, slots := 6, locals := 140 } Dg E N G (φ shp σ) (φ shp σ') [.ref (G 0), .int p0] "java/lang/IllegalArgumentException") : CW lu yL_willPay wsL_willPay { frames := 7, cells := 1, slots := 6, locals := 161 } Dg E N G shp σ [.ref (G 0), .int p0, .ref (G 788)] (fun v τ => v = some (.int (nI 1)) ∧ τ = σ') := by
  refine CW.of (cc := cL_willPay) (maxL := 4) (ret := (some .int)) (by decide) rfl (Nat.le_of_ble_eq_true rfl) ?_
  intro p_ e_ s_ m_ args_ below_ meth_ c_ hX9 hC9 htab9
  refine v_eq (pc' := 0) (st' := []) rfl rfl ?_
  refine v_loc [0, 1, 2] [(0, .ref (G 0)), (1, .int p0), (2, .ref (G 788))] rfl ?_
  refine v_aload_n 2 dL_willPay_0 rfl rfl ?_
  refine v_iconst (nI 0) dL_willPay_1 (by decide +kernel) ?_
  refine v_aload_n 0 dL_willPay_2 rfl rfl ?_
  refine v_iload_n 1 dL_willPay_3 rfl rfl ?_
  refine v_catchV (As := [.int p0]) (rest := [.int (nI 0), .ref (G 788)]) (ci := 5) (C := RX5) (T := TX5) (NF := 6) hX9 hM hS.o.1 (ob_Φ hS.o.2) rfl gL_willPay_X5_willPay rfl rfl rfl ⟨rfl, by decide +kernel, by decide +kernel, Eq.trans (b := some 1) (by decide +kernel) rfl⟩ ⟨Nat.le_of_ble_eq_true rfl, Nat.le_of_ble_eq_true rfl⟩ ⟨Nat.le_of_ble_eq_true rfl, Nat.le_of_ble_eq_true rfl⟩ (Nat.le_of_ble_eq_true rfl) rfl dL_willPay_4 [] ⟨0, 9, 12, 13⟩ [] (htab9.trans rfl) (fun _ h9 => absurd h9 List.not_mem_nil) (by decide) (by decide) (by decide +kernel) (by decide +kernel) (fun q9 => ?_)
  refine v_astore_n [(3, .ref q9), (0, .ref (G 0)), (1, .int p0), (2, .ref (G 788))] dL_willPay_12 rfl (by decide) rfl ?_
  refine v_iconst (nI 1) dL_willPay_13 (by decide +kernel) ?_
  refine v_wide 1 6 (by decide) (by decide) ?_
  refine v_iret rfl dL_willPay_14 ⟨σ', rfl, ⟨rfl, rfl⟩⟩

set_option maxHeartbeats 4000000 in
set_option maxRecDepth 100000 in
theorem w_gain_0 (lu : Launch) (Dg : va_G) (E : Nat → ClassId) (N : Nat) (G : Nat → Nat) (shp : Nat → (Nat → Int32) → va_E) (σ : Nat → Nat → Int32) (hS : StoodS E G shp N) (hN : 788 < N) (hO : shp 788 = LoS E 1) {p0 : Int32} {p1 : Int32} {P : Int32 → (Nat → Nat → Int32) → Prop} (hM : CX lu yX5_gain wsX5_gain { frames := 7, cells := 0, slots := 0, locals := 163 } Dg E N G shp σ [.ref (G 0), .int p0, .int p1] (fun v τ => ∃ x, v = some (.int x) ∧ P x τ)) : CW lu yL_gain wsL_gain { frames := 9, cells := 1, slots := 6, locals := 205 } Dg E N G shp σ [.ref (G 0), .int p0, .int p1, .ref (G 788)] (fun v τ => ∃ x τ0, v = some (.int (nI 0)) ∧ τ = st2 τ0 788 0 x ∧ P x τ0) := by
  refine CW.of (cc := cL_gain) (maxL := 5) (ret := (some .int)) (by decide) rfl (Nat.le_of_ble_eq_true rfl) ?_
  intro p_ e_ s_ m_ args_ below_ meth_ c_ hX9 hC9 htab9
  refine v_eq (pc' := 0) (st' := []) rfl rfl ?_
  refine v_loc [0, 1, 2, 3] [(0, .ref (G 0)), (1, .int p0), (2, .int p1), (3, .ref (G 788))] rfl ?_
  refine v_aload_n 3 dL_gain_0 rfl rfl ?_
  refine v_iconst (nI 0) dL_gain_1 (by decide +kernel) ?_
  refine v_aload_n 0 dL_gain_2 rfl rfl ?_
  refine v_iload_n 1 dL_gain_3 rfl rfl ?_
  refine v_iload_n 2 dL_gain_4 rfl rfl ?_
  refine u_callVx [.int p0, .int p1] [.int (nI 0), .ref (G 788)] 2 (hM) (ci := 5) (C := RX5) (T := TX5) (NF := 6) hS.o.1 hS.o.2 rfl gL_gain_X5_gain rfl rfl rfl (by decide +kernel) rfl ⟨Nat.le_of_ble_eq_true rfl, Nat.le_of_ble_eq_true rfl⟩ ⟨Nat.le_of_ble_eq_true rfl, Nat.le_of_ble_eq_true rfl⟩ (Nat.le_of_ble_eq_true rfl) rfl dL_gain_5 (fun v9 τ9 hp9 => ?_)
  obtain ⟨x9, rfl, hP9⟩ := hp9
  refine v_st (st' := [.int x9, .int (nI 0), .ref (G 788)]) rfl ?_
  refine v_i2l dL_gain_8 ?_
  refine u_last (v := x9) 0 hN hO rfl (by omega) (by decide) dL_gain_9 ?_
  generalize hσ1 : st2 τ9 788 0 (x9) = σ1
  refine v_goto 21 dL_gain_10 rfl ?_
  refine v_iconst (nI 0) dL_gain_21 (by decide +kernel) ?_
  refine v_wide 1 6 (by decide) (by decide) ?_
  refine v_iret rfl dL_gain_22 ⟨σ1, rfl, ⟨x9, τ9, rfl, hσ1.symm, hP9⟩⟩

set_option maxHeartbeats 4000000 in
set_option maxRecDepth 100000 in
theorem w_gain_1 (lu : Launch) (Dg : va_G) (E : Nat → ClassId) (N : Nat) (G : Nat → Nat) (shp : Nat → (Nat → Int32) → va_E) (σ : Nat → Nat → Int32) (hS : StoodS E G shp N) (hN : 788 < N) (hO : shp 788 = LoS E 1) {p0 : Int32} {p1 : Int32} {σ' : Nat → Nat → Int32} (hM : Thr2 lu yX5_gain wsX5_gain { frames := 8, cells := 1, slots := 6, locals := 183 } Dg E N G (φ shp σ) (φ shp σ') [.ref (G 0), .int p0, .int p1] "java/lang/IndexOutOfBoundsException") : CW lu yL_gain wsL_gain { frames := 9, cells := 1, slots := 6, locals := 205 } Dg E N G shp σ [.ref (G 0), .int p0, .int p1, .ref (G 788)] (fun v τ => v = some (.int (nI 1)) ∧ τ = σ') := by
  refine CW.of (cc := cL_gain) (maxL := 5) (ret := (some .int)) (by decide) rfl (Nat.le_of_ble_eq_true rfl) ?_
  intro p_ e_ s_ m_ args_ below_ meth_ c_ hX9 hC9 htab9
  refine v_eq (pc' := 0) (st' := []) rfl rfl ?_
  refine v_loc [0, 1, 2, 3] [(0, .ref (G 0)), (1, .int p0), (2, .int p1), (3, .ref (G 788))] rfl ?_
  refine v_aload_n 3 dL_gain_0 rfl rfl ?_
  refine v_iconst (nI 0) dL_gain_1 (by decide +kernel) ?_
  refine v_aload_n 0 dL_gain_2 rfl rfl ?_
  refine v_iload_n 1 dL_gain_3 rfl rfl ?_
  refine v_iload_n 2 dL_gain_4 rfl rfl ?_
  refine v_catchV (As := [.int p0, .int p1]) (rest := [.int (nI 0), .ref (G 788)]) (ci := 5) (C := RX5) (T := TX5) (NF := 6) hX9 hM hS.o.1 (ob_Φ hS.o.2) rfl gL_gain_X5_gain rfl rfl rfl ⟨rfl, by decide +kernel, by decide +kernel, Eq.trans (b := some 2) (by decide +kernel) rfl⟩ ⟨Nat.le_of_ble_eq_true rfl, Nat.le_of_ble_eq_true rfl⟩ ⟨Nat.le_of_ble_eq_true rfl, Nat.le_of_ble_eq_true rfl⟩ (Nat.le_of_ble_eq_true rfl) rfl dL_gain_5 [] ⟨0, 10, 13, 28⟩ [⟨0, 10, 17, 15⟩] (htab9.trans rfl) (fun _ h9 => absurd h9 List.not_mem_nil) (by decide) (by decide) (by decide +kernel) (by decide +kernel) (fun q9 => ?_)
  refine v_astore [(4, .ref q9), (0, .ref (G 0)), (1, .int p0), (2, .int p1), (3, .ref (G 788))] dL_gain_13 (by decide) rfl ?_
  refine v_iconst (nI 1) dL_gain_15 (by decide +kernel) ?_
  refine v_wide 1 6 (by decide) (by decide) ?_
  refine v_iret rfl dL_gain_16 ⟨σ', rfl, ⟨rfl, rfl⟩⟩

set_option maxHeartbeats 4000000 in
set_option maxRecDepth 100000 in
theorem w_gain_2 (lu : Launch) (Dg : va_G) (E : Nat → ClassId) (N : Nat) (G : Nat → Nat) (shp : Nat → (Nat → Int32) → va_E) (σ : Nat → Nat → Int32) (hS : StoodS E G shp N) (hN : 788 < N) (hO : shp 788 = LoS E 1) {p0 : Int32} {p1 : Int32} {σ' : Nat → Nat → Int32} (hM : Thr2 lu yX5_gain wsX5_gain { frames := 8, cells := 1, slots := 6, locals := 183 } Dg E N G (φ shp σ) (φ shp σ') [.ref (G 0), .int p0, .int p1] "java/lang/IllegalStateException") : CW lu yL_gain wsL_gain { frames := 9, cells := 1, slots := 6, locals := 205 } Dg E N G shp σ [.ref (G 0), .int p0, .int p1, .ref (G 788)] (fun v τ => v = some (.int (nI 2)) ∧ τ = σ') := by
  refine CW.of (cc := cL_gain) (maxL := 5) (ret := (some .int)) (by decide) rfl (Nat.le_of_ble_eq_true rfl) ?_
  intro p_ e_ s_ m_ args_ below_ meth_ c_ hX9 hC9 htab9
  refine v_eq (pc' := 0) (st' := []) rfl rfl ?_
  refine v_loc [0, 1, 2, 3] [(0, .ref (G 0)), (1, .int p0), (2, .int p1), (3, .ref (G 788))] rfl ?_
  refine v_aload_n 3 dL_gain_0 rfl rfl ?_
  refine v_iconst (nI 0) dL_gain_1 (by decide +kernel) ?_
  refine v_aload_n 0 dL_gain_2 rfl rfl ?_
  refine v_iload_n 1 dL_gain_3 rfl rfl ?_
  refine v_iload_n 2 dL_gain_4 rfl rfl ?_
  refine v_catchV (As := [.int p0, .int p1]) (rest := [.int (nI 0), .ref (G 788)]) (ci := 5) (C := RX5) (T := TX5) (NF := 6) hX9 hM hS.o.1 (ob_Φ hS.o.2) rfl gL_gain_X5_gain rfl rfl rfl ⟨rfl, by decide +kernel, by decide +kernel, Eq.trans (b := some 2) (by decide +kernel) rfl⟩ ⟨Nat.le_of_ble_eq_true rfl, Nat.le_of_ble_eq_true rfl⟩ ⟨Nat.le_of_ble_eq_true rfl, Nat.le_of_ble_eq_true rfl⟩ (Nat.le_of_ble_eq_true rfl) rfl dL_gain_5 [⟨0, 10, 13, 28⟩] ⟨0, 10, 17, 15⟩ [] (htab9.trans rfl) (fun z9 h9 => by rw [List.mem_singleton] at h9; subst h9; exact Or.inr ⟨by decide, "java/lang/IndexOutOfBoundsException", by decide +kernel, hC9.2.1⟩) (by decide) (by decide) (by decide +kernel) (by decide +kernel) (fun q9 => ?_)
  refine v_astore [(4, .ref q9), (0, .ref (G 0)), (1, .int p0), (2, .int p1), (3, .ref (G 788))] dL_gain_17 (by decide) rfl ?_
  refine v_iconst (nI 2) dL_gain_19 (by decide +kernel) ?_
  refine v_wide 1 6 (by decide) (by decide) ?_
  refine v_iret rfl dL_gain_20 ⟨σ', rfl, ⟨rfl, rfl⟩⟩

set_option maxHeartbeats 4000000 in
set_option maxRecDepth 100000 in
theorem w_partner_0 (lu : Launch) (Dg : va_G) (E : Nat → ClassId) (N : Nat) (G : Nat → Nat) (shp : Nat → (Nat → Int32) → va_E) (σ : Nat → Nat → Int32) (hS : StoodS E G shp N) (hN : 788 < N) (hO : shp 788 = LoS E 1) {p0 : Int32} {P : Int32 → (Nat → Nat → Int32) → Prop} (hM : CX lu yX5_partner wsX5_partner { frames := 6, cells := 0, slots := 0, locals := 141 } Dg E N G shp σ [.ref (G 0), .int p0] (fun v τ => ∃ x, v = some (.int x) ∧ P x τ)) : CW lu yL_partner wsL_partner { frames := 8, cells := 1, slots := 6, locals := 182 } Dg E N G shp σ [.ref (G 0), .int p0, .ref (G 788)] (fun v τ => ∃ x τ0, v = some (.int (nI 0)) ∧ τ = st2 τ0 788 0 x ∧ P x τ0) := by
  refine CW.of (cc := cL_partner) (maxL := 4) (ret := (some .int)) (by decide) rfl (Nat.le_of_ble_eq_true rfl) ?_
  intro p_ e_ s_ m_ args_ below_ meth_ c_ hX9 hC9 htab9
  refine v_eq (pc' := 0) (st' := []) rfl rfl ?_
  refine v_loc [0, 1, 2] [(0, .ref (G 0)), (1, .int p0), (2, .ref (G 788))] rfl ?_
  refine v_aload_n 2 dL_partner_0 rfl rfl ?_
  refine v_iconst (nI 0) dL_partner_1 (by decide +kernel) ?_
  refine v_aload_n 0 dL_partner_2 rfl rfl ?_
  refine v_iload_n 1 dL_partner_3 rfl rfl ?_
  refine u_callVx [.int p0] [.int (nI 0), .ref (G 788)] 1 (hM) (ci := 5) (C := RX5) (T := TX5) (NF := 6) hS.o.1 hS.o.2 rfl gL_partner_X5_partner rfl rfl rfl (by decide +kernel) rfl ⟨Nat.le_of_ble_eq_true rfl, Nat.le_of_ble_eq_true rfl⟩ ⟨Nat.le_of_ble_eq_true rfl, Nat.le_of_ble_eq_true rfl⟩ (Nat.le_of_ble_eq_true rfl) rfl dL_partner_4 (fun v9 τ9 hp9 => ?_)
  obtain ⟨x9, rfl, hP9⟩ := hp9
  refine v_st (st' := [.int x9, .int (nI 0), .ref (G 788)]) rfl ?_
  refine v_i2l dL_partner_7 ?_
  refine u_last (v := x9) 0 hN hO rfl (by omega) (by decide) dL_partner_8 ?_
  generalize hσ1 : st2 τ9 788 0 (x9) = σ1
  refine v_goto 15 dL_partner_9 rfl ?_
  refine v_iconst (nI 0) dL_partner_15 (by decide +kernel) ?_
  refine v_wide 1 6 (by decide) (by decide) ?_
  refine v_iret rfl dL_partner_16 ⟨σ1, rfl, ⟨x9, τ9, rfl, hσ1.symm, hP9⟩⟩

set_option maxHeartbeats 4000000 in
set_option maxRecDepth 100000 in
theorem w_partner_1 (lu : Launch) (Dg : va_G) (E : Nat → ClassId) (N : Nat) (G : Nat → Nat) (shp : Nat → (Nat → Int32) → va_E) (σ : Nat → Nat → Int32) (hS : StoodS E G shp N) (hN : 788 < N) (hO : shp 788 = LoS E 1) {p0 : Int32} {σ' : Nat → Nat → Int32} (hM : Thr2 lu yX5_partner wsX5_partner { frames := 7, cells := 1, slots := 6, locals := 161 } Dg E N G (φ shp σ) (φ shp σ') [.ref (G 0), .int p0] "java/lang/IndexOutOfBoundsException") : CW lu yL_partner wsL_partner { frames := 8, cells := 1, slots := 6, locals := 182 } Dg E N G shp σ [.ref (G 0), .int p0, .ref (G 788)] (fun v τ => v = some (.int (nI 1)) ∧ τ = σ') := by
  refine CW.of (cc := cL_partner) (maxL := 4) (ret := (some .int)) (by decide) rfl (Nat.le_of_ble_eq_true rfl) ?_
  intro p_ e_ s_ m_ args_ below_ meth_ c_ hX9 hC9 htab9
  refine v_eq (pc' := 0) (st' := []) rfl rfl ?_
  refine v_loc [0, 1, 2] [(0, .ref (G 0)), (1, .int p0), (2, .ref (G 788))] rfl ?_
  refine v_aload_n 2 dL_partner_0 rfl rfl ?_
  refine v_iconst (nI 0) dL_partner_1 (by decide +kernel) ?_
  refine v_aload_n 0 dL_partner_2 rfl rfl ?_
  refine v_iload_n 1 dL_partner_3 rfl rfl ?_
  refine v_catchV (As := [.int p0]) (rest := [.int (nI 0), .ref (G 788)]) (ci := 5) (C := RX5) (T := TX5) (NF := 6) hX9 hM hS.o.1 (ob_Φ hS.o.2) rfl gL_partner_X5_partner rfl rfl rfl ⟨rfl, by decide +kernel, by decide +kernel, Eq.trans (b := some 1) (by decide +kernel) rfl⟩ ⟨Nat.le_of_ble_eq_true rfl, Nat.le_of_ble_eq_true rfl⟩ ⟨Nat.le_of_ble_eq_true rfl, Nat.le_of_ble_eq_true rfl⟩ (Nat.le_of_ble_eq_true rfl) rfl dL_partner_4 [] ⟨0, 9, 12, 28⟩ [] (htab9.trans rfl) (fun _ h9 => absurd h9 List.not_mem_nil) (by decide) (by decide) (by decide +kernel) (by decide +kernel) (fun q9 => ?_)
  refine v_astore_n [(3, .ref q9), (0, .ref (G 0)), (1, .int p0), (2, .ref (G 788))] dL_partner_12 rfl (by decide) rfl ?_
  refine v_iconst (nI 1) dL_partner_13 (by decide +kernel) ?_
  refine v_wide 1 6 (by decide) (by decide) ?_
  refine v_iret rfl dL_partner_14 ⟨σ', rfl, ⟨rfl, rfl⟩⟩

set_option maxHeartbeats 4000000 in
set_option maxRecDepth 100000 in
theorem w_saved_0 (lu : Launch) (Dg : va_G) (E : Nat → ClassId) (N : Nat) (G : Nat → Nat) (shp : Nat → (Nat → Int32) → va_E) (σ : Nat → Nat → Int32) (hS : StoodS E G shp N) (hN : 788 < N) (hO : shp 788 = LoS E 1) {p0 : Int32} {p1 : Int32} {P : Int32 → (Nat → Nat → Int32) → Prop} (hM : CX lu yX5_saved wsX5_saved { frames := 7, cells := 0, slots := 0, locals := 163 } Dg E N G shp σ [.ref (G 0), .int p0, .int p1] (fun v τ => ∃ x, v = some (.int x) ∧ P x τ)) : CW lu yL_saved wsL_saved { frames := 9, cells := 1, slots := 6, locals := 205 } Dg E N G shp σ [.ref (G 0), .int p0, .int p1, .ref (G 788)] (fun v τ => ∃ x τ0, v = some (.int (nI 0)) ∧ τ = st2 τ0 788 0 x ∧ P x τ0) := by
  refine CW.of (cc := cL_saved) (maxL := 5) (ret := (some .int)) (by decide) rfl (Nat.le_of_ble_eq_true rfl) ?_
  intro p_ e_ s_ m_ args_ below_ meth_ c_ hX9 hC9 htab9
  refine v_eq (pc' := 0) (st' := []) rfl rfl ?_
  refine v_loc [0, 1, 2, 3] [(0, .ref (G 0)), (1, .int p0), (2, .int p1), (3, .ref (G 788))] rfl ?_
  refine v_aload_n 3 dL_saved_0 rfl rfl ?_
  refine v_iconst (nI 0) dL_saved_1 (by decide +kernel) ?_
  refine v_aload_n 0 dL_saved_2 rfl rfl ?_
  refine v_iload_n 1 dL_saved_3 rfl rfl ?_
  refine v_iload_n 2 dL_saved_4 rfl rfl ?_
  refine u_callVx [.int p0, .int p1] [.int (nI 0), .ref (G 788)] 2 (hM) (ci := 5) (C := RX5) (T := TX5) (NF := 6) hS.o.1 hS.o.2 rfl gL_saved_X5_saved rfl rfl rfl (by decide +kernel) rfl ⟨Nat.le_of_ble_eq_true rfl, Nat.le_of_ble_eq_true rfl⟩ ⟨Nat.le_of_ble_eq_true rfl, Nat.le_of_ble_eq_true rfl⟩ (Nat.le_of_ble_eq_true rfl) rfl dL_saved_5 (fun v9 τ9 hp9 => ?_)
  obtain ⟨x9, rfl, hP9⟩ := hp9
  refine v_st (st' := [.int x9, .int (nI 0), .ref (G 788)]) rfl ?_
  refine v_i2l dL_saved_8 ?_
  refine u_last (v := x9) 0 hN hO rfl (by omega) (by decide) dL_saved_9 ?_
  generalize hσ1 : st2 τ9 788 0 (x9) = σ1
  refine v_goto 25 dL_saved_10 rfl ?_
  refine v_iconst (nI 0) dL_saved_25 (by decide +kernel) ?_
  refine v_wide 1 6 (by decide) (by decide) ?_
  refine v_iret rfl dL_saved_26 ⟨σ1, rfl, ⟨x9, τ9, rfl, hσ1.symm, hP9⟩⟩

set_option maxHeartbeats 4000000 in
set_option maxRecDepth 100000 in
theorem w_saved_1 (lu : Launch) (Dg : va_G) (E : Nat → ClassId) (N : Nat) (G : Nat → Nat) (shp : Nat → (Nat → Int32) → va_E) (σ : Nat → Nat → Int32) (hS : StoodS E G shp N) (hN : 788 < N) (hO : shp 788 = LoS E 1) {p0 : Int32} {p1 : Int32} {σ' : Nat → Nat → Int32} (hM : Thr2 lu yX5_saved wsX5_saved { frames := 8, cells := 1, slots := 6, locals := 183 } Dg E N G (φ shp σ) (φ shp σ') [.ref (G 0), .int p0, .int p1] "java/lang/IndexOutOfBoundsException") : CW lu yL_saved wsL_saved { frames := 9, cells := 1, slots := 6, locals := 205 } Dg E N G shp σ [.ref (G 0), .int p0, .int p1, .ref (G 788)] (fun v τ => v = some (.int (nI 1)) ∧ τ = σ') := by
  refine CW.of (cc := cL_saved) (maxL := 5) (ret := (some .int)) (by decide) rfl (Nat.le_of_ble_eq_true rfl) ?_
  intro p_ e_ s_ m_ args_ below_ meth_ c_ hX9 hC9 htab9
  refine v_eq (pc' := 0) (st' := []) rfl rfl ?_
  refine v_loc [0, 1, 2, 3] [(0, .ref (G 0)), (1, .int p0), (2, .int p1), (3, .ref (G 788))] rfl ?_
  refine v_aload_n 3 dL_saved_0 rfl rfl ?_
  refine v_iconst (nI 0) dL_saved_1 (by decide +kernel) ?_
  refine v_aload_n 0 dL_saved_2 rfl rfl ?_
  refine v_iload_n 1 dL_saved_3 rfl rfl ?_
  refine v_iload_n 2 dL_saved_4 rfl rfl ?_
  refine v_catchV (As := [.int p0, .int p1]) (rest := [.int (nI 0), .ref (G 788)]) (ci := 5) (C := RX5) (T := TX5) (NF := 6) hX9 hM hS.o.1 (ob_Φ hS.o.2) rfl gL_saved_X5_saved rfl rfl rfl ⟨rfl, by decide +kernel, by decide +kernel, Eq.trans (b := some 2) (by decide +kernel) rfl⟩ ⟨Nat.le_of_ble_eq_true rfl, Nat.le_of_ble_eq_true rfl⟩ ⟨Nat.le_of_ble_eq_true rfl, Nat.le_of_ble_eq_true rfl⟩ (Nat.le_of_ble_eq_true rfl) rfl dL_saved_5 [] ⟨0, 10, 13, 28⟩ [⟨0, 10, 17, 13⟩, ⟨0, 10, 21, 15⟩] (htab9.trans rfl) (fun _ h9 => absurd h9 List.not_mem_nil) (by decide) (by decide) (by decide +kernel) (by decide +kernel) (fun q9 => ?_)
  refine v_astore [(4, .ref q9), (0, .ref (G 0)), (1, .int p0), (2, .int p1), (3, .ref (G 788))] dL_saved_13 (by decide) rfl ?_
  refine v_iconst (nI 1) dL_saved_15 (by decide +kernel) ?_
  refine v_wide 1 6 (by decide) (by decide) ?_
  refine v_iret rfl dL_saved_16 ⟨σ', rfl, ⟨rfl, rfl⟩⟩

set_option maxHeartbeats 4000000 in
set_option maxRecDepth 100000 in
theorem w_saved_2 (lu : Launch) (Dg : va_G) (E : Nat → ClassId) (N : Nat) (G : Nat → Nat) (shp : Nat → (Nat → Int32) → va_E) (σ : Nat → Nat → Int32) (hS : StoodS E G shp N) (hN : 788 < N) (hO : shp 788 = LoS E 1) {p0 : Int32} {p1 : Int32} {σ' : Nat → Nat → Int32} (hM : Thr2 lu yX5_saved wsX5_saved { frames := 8, cells := 1, slots := 6, locals := 183 } Dg E N G (φ shp σ) (φ shp σ') [.ref (G 0), .int p0, .int p1] "java/lang/IllegalArgumentException") : CW lu yL_saved wsL_saved { frames := 9, cells := 1, slots := 6, locals := 205 } Dg E N G shp σ [.ref (G 0), .int p0, .int p1, .ref (G 788)] (fun v τ => v = some (.int (nI 2)) ∧ τ = σ') := by
  refine CW.of (cc := cL_saved) (maxL := 5) (ret := (some .int)) (by decide) rfl (Nat.le_of_ble_eq_true rfl) ?_
  intro p_ e_ s_ m_ args_ below_ meth_ c_ hX9 hC9 htab9
  refine v_eq (pc' := 0) (st' := []) rfl rfl ?_
  refine v_loc [0, 1, 2, 3] [(0, .ref (G 0)), (1, .int p0), (2, .int p1), (3, .ref (G 788))] rfl ?_
  refine v_aload_n 3 dL_saved_0 rfl rfl ?_
  refine v_iconst (nI 0) dL_saved_1 (by decide +kernel) ?_
  refine v_aload_n 0 dL_saved_2 rfl rfl ?_
  refine v_iload_n 1 dL_saved_3 rfl rfl ?_
  refine v_iload_n 2 dL_saved_4 rfl rfl ?_
  refine v_catchV (As := [.int p0, .int p1]) (rest := [.int (nI 0), .ref (G 788)]) (ci := 5) (C := RX5) (T := TX5) (NF := 6) hX9 hM hS.o.1 (ob_Φ hS.o.2) rfl gL_saved_X5_saved rfl rfl rfl ⟨rfl, by decide +kernel, by decide +kernel, Eq.trans (b := some 2) (by decide +kernel) rfl⟩ ⟨Nat.le_of_ble_eq_true rfl, Nat.le_of_ble_eq_true rfl⟩ ⟨Nat.le_of_ble_eq_true rfl, Nat.le_of_ble_eq_true rfl⟩ (Nat.le_of_ble_eq_true rfl) rfl dL_saved_5 [⟨0, 10, 13, 28⟩] ⟨0, 10, 17, 13⟩ [⟨0, 10, 21, 15⟩] (htab9.trans rfl) (fun z9 h9 => by rw [List.mem_singleton] at h9; subst h9; exact Or.inr ⟨by decide, "java/lang/IndexOutOfBoundsException", by decide +kernel, hC9.1⟩) (by decide) (by decide) (by decide +kernel) (by decide +kernel) (fun q9 => ?_)
  refine v_astore [(4, .ref q9), (0, .ref (G 0)), (1, .int p0), (2, .int p1), (3, .ref (G 788))] dL_saved_17 (by decide) rfl ?_
  refine v_iconst (nI 2) dL_saved_19 (by decide +kernel) ?_
  refine v_wide 1 6 (by decide) (by decide) ?_
  refine v_iret rfl dL_saved_20 ⟨σ', rfl, ⟨rfl, rfl⟩⟩

set_option maxHeartbeats 4000000 in
set_option maxRecDepth 100000 in
theorem w_saved_3 (lu : Launch) (Dg : va_G) (E : Nat → ClassId) (N : Nat) (G : Nat → Nat) (shp : Nat → (Nat → Int32) → va_E) (σ : Nat → Nat → Int32) (hS : StoodS E G shp N) (hN : 788 < N) (hO : shp 788 = LoS E 1) {p0 : Int32} {p1 : Int32} {σ' : Nat → Nat → Int32} (hM : Thr2 lu yX5_saved wsX5_saved { frames := 8, cells := 1, slots := 6, locals := 183 } Dg E N G (φ shp σ) (φ shp σ') [.ref (G 0), .int p0, .int p1] "java/lang/IllegalStateException") : CW lu yL_saved wsL_saved { frames := 9, cells := 1, slots := 6, locals := 205 } Dg E N G shp σ [.ref (G 0), .int p0, .int p1, .ref (G 788)] (fun v τ => v = some (.int (nI 3)) ∧ τ = σ') := by
  refine CW.of (cc := cL_saved) (maxL := 5) (ret := (some .int)) (by decide) rfl (Nat.le_of_ble_eq_true rfl) ?_
  intro p_ e_ s_ m_ args_ below_ meth_ c_ hX9 hC9 htab9
  refine v_eq (pc' := 0) (st' := []) rfl rfl ?_
  refine v_loc [0, 1, 2, 3] [(0, .ref (G 0)), (1, .int p0), (2, .int p1), (3, .ref (G 788))] rfl ?_
  refine v_aload_n 3 dL_saved_0 rfl rfl ?_
  refine v_iconst (nI 0) dL_saved_1 (by decide +kernel) ?_
  refine v_aload_n 0 dL_saved_2 rfl rfl ?_
  refine v_iload_n 1 dL_saved_3 rfl rfl ?_
  refine v_iload_n 2 dL_saved_4 rfl rfl ?_
  refine v_catchV (As := [.int p0, .int p1]) (rest := [.int (nI 0), .ref (G 788)]) (ci := 5) (C := RX5) (T := TX5) (NF := 6) hX9 hM hS.o.1 (ob_Φ hS.o.2) rfl gL_saved_X5_saved rfl rfl rfl ⟨rfl, by decide +kernel, by decide +kernel, Eq.trans (b := some 2) (by decide +kernel) rfl⟩ ⟨Nat.le_of_ble_eq_true rfl, Nat.le_of_ble_eq_true rfl⟩ ⟨Nat.le_of_ble_eq_true rfl, Nat.le_of_ble_eq_true rfl⟩ (Nat.le_of_ble_eq_true rfl) rfl dL_saved_5 [⟨0, 10, 13, 28⟩, ⟨0, 10, 17, 13⟩] ⟨0, 10, 21, 15⟩ [] (htab9.trans rfl) (fun z9 h9 => (List.mem_cons.mp h9).elim (fun h9 => by subst h9; exact Or.inr ⟨by decide, "java/lang/IndexOutOfBoundsException", by decide +kernel, hC9.2.1⟩) (fun h9 => by rw [List.mem_singleton] at h9; subst h9; exact Or.inr ⟨by decide, "java/lang/IllegalArgumentException", by decide +kernel, hC9.2.2⟩)) (by decide) (by decide) (by decide +kernel) (by decide +kernel) (fun q9 => ?_)
  refine v_astore [(4, .ref q9), (0, .ref (G 0)), (1, .int p0), (2, .int p1), (3, .ref (G 788))] dL_saved_21 (by decide) rfl ?_
  refine v_iconst (nI 3) dL_saved_23 (by decide +kernel) ?_
  refine v_wide 1 6 (by decide) (by decide) ?_
  refine v_iret rfl dL_saved_24 ⟨σ', rfl, ⟨rfl, rfl⟩⟩

set_option maxHeartbeats 4000000 in
set_option maxRecDepth 100000 in
theorem w_runScript_0 (lu : Launch) (Dg : va_G) (E : Nat → ClassId) (N : Nat) (G : Nat → Nat) (shp : Nat → (Nat → Int32) → va_E) (σ : Nat → Nat → Int32) (hS : StoodS E G shp N) (hN : 788 < N) (hO : shp 788 = LoS E 1) {p0 : Int32} {p1 : Int64} {P : Int32 → (Nat → Nat → Int32) → Prop} (hM : CX lu yX5_runScript wsX5_runScript { frames := 5, cells := 0, slots := 0, locals := 120 } Dg E N G shp σ [.ref (G 0), .int p0, .long p1] (fun v τ => ∃ x, v = some (.int x) ∧ P x τ)) : CW lu yL_runScript wsL_runScript { frames := 7, cells := 1, slots := 6, locals := 165 } Dg E N G shp σ [.ref (G 0), .int p0, .long p1, .ref (G 788)] (fun v τ => ∃ x τ0, v = some (.int (nI 0)) ∧ τ = st2 τ0 788 0 x ∧ P x τ0) := by
  refine CW.of (cc := cL_runScript) (maxL := 6) (ret := (some .int)) (by decide) rfl (Nat.le_of_ble_eq_true rfl) ?_
  intro p_ e_ s_ m_ args_ below_ meth_ c_ hX9 hC9 htab9
  refine v_eq (pc' := 0) (st' := []) rfl rfl ?_
  refine v_loc [0, 1, 2, 3] [(0, .ref (G 0)), (1, .int p0), (2, .long p1), (4, .ref (G 788))] rfl ?_
  refine v_aload 3 dL_runScript_0 rfl ?_
  refine v_iconst (nI 0) dL_runScript_2 (by decide +kernel) ?_
  refine v_aload_n 0 dL_runScript_3 rfl rfl ?_
  refine v_iload_n 1 dL_runScript_4 rfl rfl ?_
  refine v_lload_n 2 dL_runScript_5 rfl rfl ?_
  refine u_callVx [.int p0, .long p1] [.int (nI 0), .ref (G 788)] 2 (hM) (ci := 5) (C := RX5) (T := TX5) (NF := 6) hS.o.1 hS.o.2 rfl gL_runScript_X5_runScript rfl rfl rfl (by decide +kernel) rfl ⟨Nat.le_of_ble_eq_true rfl, Nat.le_of_ble_eq_true rfl⟩ ⟨Nat.le_of_ble_eq_true rfl, Nat.le_of_ble_eq_true rfl⟩ (Nat.le_of_ble_eq_true rfl) rfl dL_runScript_6 (fun v9 τ9 hp9 => ?_)
  obtain ⟨x9, rfl, hP9⟩ := hp9
  refine v_st (st' := [.int x9, .int (nI 0), .ref (G 788)]) rfl ?_
  refine v_i2l dL_runScript_9 ?_
  refine u_last (v := x9) 0 hN hO rfl (by omega) (by decide) dL_runScript_10 ?_
  generalize hσ1 : st2 τ9 788 0 (x9) = σ1
  refine v_goto 18 dL_runScript_11 rfl ?_
  refine v_iconst (nI 0) dL_runScript_18 (by decide +kernel) ?_
  refine v_wide 1 6 (by decide) (by decide) ?_
  refine v_iret rfl dL_runScript_19 ⟨σ1, rfl, ⟨x9, τ9, rfl, hσ1.symm, hP9⟩⟩

set_option maxHeartbeats 4000000 in
set_option maxRecDepth 100000 in
theorem w_runScript_1 (lu : Launch) (Dg : va_G) (E : Nat → ClassId) (N : Nat) (G : Nat → Nat) (shp : Nat → (Nat → Int32) → va_E) (σ : Nat → Nat → Int32) (hS : StoodS E G shp N) (hN : 788 < N) (hO : shp 788 = LoS E 1) {p0 : Int32} {p1 : Int64} {σ' : Nat → Nat → Int32} (hM : Thr2 lu yX5_runScript wsX5_runScript { frames := 6, cells := 1, slots := 6, locals := 140 } Dg E N G (φ shp σ) (φ shp σ') [.ref (G 0), .int p0, .long p1] "java/lang/IllegalArgumentException") : CW lu yL_runScript wsL_runScript { frames := 7, cells := 1, slots := 6, locals := 165 } Dg E N G shp σ [.ref (G 0), .int p0, .long p1, .ref (G 788)] (fun v τ => v = some (.int (nI 1)) ∧ τ = σ') := by
  refine CW.of (cc := cL_runScript) (maxL := 6) (ret := (some .int)) (by decide) rfl (Nat.le_of_ble_eq_true rfl) ?_
  intro p_ e_ s_ m_ args_ below_ meth_ c_ hX9 hC9 htab9
  refine v_eq (pc' := 0) (st' := []) rfl rfl ?_
  refine v_loc [0, 1, 2, 3] [(0, .ref (G 0)), (1, .int p0), (2, .long p1), (4, .ref (G 788))] rfl ?_
  refine v_aload 3 dL_runScript_0 rfl ?_
  refine v_iconst (nI 0) dL_runScript_2 (by decide +kernel) ?_
  refine v_aload_n 0 dL_runScript_3 rfl rfl ?_
  refine v_iload_n 1 dL_runScript_4 rfl rfl ?_
  refine v_lload_n 2 dL_runScript_5 rfl rfl ?_
  refine v_catchV (As := [.int p0, .long p1]) (rest := [.int (nI 0), .ref (G 788)]) (ci := 5) (C := RX5) (T := TX5) (NF := 6) hX9 hM hS.o.1 (ob_Φ hS.o.2) rfl gL_runScript_X5_runScript rfl rfl rfl ⟨rfl, by decide +kernel, by decide +kernel, Eq.trans (b := some 2) (by decide +kernel) rfl⟩ ⟨Nat.le_of_ble_eq_true rfl, Nat.le_of_ble_eq_true rfl⟩ ⟨Nat.le_of_ble_eq_true rfl, Nat.le_of_ble_eq_true rfl⟩ (Nat.le_of_ble_eq_true rfl) rfl dL_runScript_6 [] ⟨0, 11, 14, 13⟩ [] (htab9.trans rfl) (fun _ h9 => absurd h9 List.not_mem_nil) (by decide) (by decide) (by decide +kernel) (by decide +kernel) (fun q9 => ?_)
  refine v_astore [(5, .ref q9), (0, .ref (G 0)), (1, .int p0), (2, .long p1), (4, .ref (G 788))] dL_runScript_14 (by decide) rfl ?_
  refine v_iconst (nI 1) dL_runScript_16 (by decide +kernel) ?_
  refine v_wide 1 6 (by decide) (by decide) ?_
  refine v_iret rfl dL_runScript_17 ⟨σ', rfl, ⟨rfl, rfl⟩⟩

set_option maxHeartbeats 4000000 in
set_option maxRecDepth 100000 in
theorem w_simulate_0 (lu : Launch) (Dg : va_G) (E : Nat → ClassId) (N : Nat) (G : Nat → Nat) (shp : Nat → (Nat → Int32) → va_E) (σ : Nat → Nat → Int32) (hS : StoodS E G shp N) (hN : 788 < N) (hO : shp 788 = LoS E 1) {p0 : Int64} {p1 : Int32} {P : Int32 → (Nat → Nat → Int32) → Prop} (hM : CX lu yX5_simulate wsX5_simulate { frames := 5, cells := 0, slots := 0, locals := 120 } Dg E N G shp σ [.ref (G 0), .long p0, .int p1] (fun v τ => ∃ x, v = some (.int x) ∧ P x τ)) : CW lu yL_simulate wsL_simulate { frames := 7, cells := 1, slots := 6, locals := 167 } Dg E N G shp σ [.ref (G 0), .long p0, .int p1, .ref (G 788)] (fun v τ => ∃ x τ0, v = some (.int (nI 0)) ∧ τ = st2 τ0 788 0 x ∧ P x τ0) := by
  refine CW.of (cc := cL_simulate) (maxL := 6) (ret := (some .int)) (by decide) rfl (Nat.le_of_ble_eq_true rfl) ?_
  intro p_ e_ s_ m_ args_ below_ meth_ c_ hX9 hC9 htab9
  refine v_eq (pc' := 0) (st' := []) rfl rfl ?_
  refine v_loc [0, 1, 2, 3] [(0, .ref (G 0)), (1, .long p0), (3, .int p1), (4, .ref (G 788))] rfl ?_
  refine v_aload 3 dL_simulate_0 rfl ?_
  refine v_iconst (nI 0) dL_simulate_2 (by decide +kernel) ?_
  refine v_aload_n 0 dL_simulate_3 rfl rfl ?_
  refine v_lload_n 1 dL_simulate_4 rfl rfl ?_
  refine v_iload_n 2 dL_simulate_5 rfl rfl ?_
  refine u_callVx [.long p0, .int p1] [.int (nI 0), .ref (G 788)] 2 (hM) (ci := 5) (C := RX5) (T := TX5) (NF := 6) hS.o.1 hS.o.2 rfl gL_simulate_X5_simulate rfl rfl rfl (by decide +kernel) rfl ⟨Nat.le_of_ble_eq_true rfl, Nat.le_of_ble_eq_true rfl⟩ ⟨Nat.le_of_ble_eq_true rfl, Nat.le_of_ble_eq_true rfl⟩ (Nat.le_of_ble_eq_true rfl) rfl dL_simulate_6 (fun v9 τ9 hp9 => ?_)
  obtain ⟨x9, rfl, hP9⟩ := hp9
  refine v_st (st' := [.int x9, .int (nI 0), .ref (G 788)]) rfl ?_
  refine v_i2l dL_simulate_9 ?_
  refine u_last (v := x9) 0 hN hO rfl (by omega) (by decide) dL_simulate_10 ?_
  generalize hσ1 : st2 τ9 788 0 (x9) = σ1
  refine v_goto 18 dL_simulate_11 rfl ?_
  refine v_iconst (nI 0) dL_simulate_18 (by decide +kernel) ?_
  refine v_wide 1 6 (by decide) (by decide) ?_
  refine v_iret rfl dL_simulate_19 ⟨σ1, rfl, ⟨x9, τ9, rfl, hσ1.symm, hP9⟩⟩

set_option maxHeartbeats 4000000 in
set_option maxRecDepth 100000 in
theorem w_simulate_1 (lu : Launch) (Dg : va_G) (E : Nat → ClassId) (N : Nat) (G : Nat → Nat) (shp : Nat → (Nat → Int32) → va_E) (σ : Nat → Nat → Int32) (hS : StoodS E G shp N) (hN : 788 < N) (hO : shp 788 = LoS E 1) {p0 : Int64} {p1 : Int32} {σ' : Nat → Nat → Int32} (hM : Thr2 lu yX5_simulate wsX5_simulate { frames := 6, cells := 1, slots := 6, locals := 140 } Dg E N G (φ shp σ) (φ shp σ') [.ref (G 0), .long p0, .int p1] "java/lang/IllegalArgumentException") : CW lu yL_simulate wsL_simulate { frames := 7, cells := 1, slots := 6, locals := 167 } Dg E N G shp σ [.ref (G 0), .long p0, .int p1, .ref (G 788)] (fun v τ => v = some (.int (nI 1)) ∧ τ = σ') := by
  refine CW.of (cc := cL_simulate) (maxL := 6) (ret := (some .int)) (by decide) rfl (Nat.le_of_ble_eq_true rfl) ?_
  intro p_ e_ s_ m_ args_ below_ meth_ c_ hX9 hC9 htab9
  refine v_eq (pc' := 0) (st' := []) rfl rfl ?_
  refine v_loc [0, 1, 2, 3] [(0, .ref (G 0)), (1, .long p0), (3, .int p1), (4, .ref (G 788))] rfl ?_
  refine v_aload 3 dL_simulate_0 rfl ?_
  refine v_iconst (nI 0) dL_simulate_2 (by decide +kernel) ?_
  refine v_aload_n 0 dL_simulate_3 rfl rfl ?_
  refine v_lload_n 1 dL_simulate_4 rfl rfl ?_
  refine v_iload_n 2 dL_simulate_5 rfl rfl ?_
  refine v_catchV (As := [.long p0, .int p1]) (rest := [.int (nI 0), .ref (G 788)]) (ci := 5) (C := RX5) (T := TX5) (NF := 6) hX9 hM hS.o.1 (ob_Φ hS.o.2) rfl gL_simulate_X5_simulate rfl rfl rfl ⟨rfl, by decide +kernel, by decide +kernel, Eq.trans (b := some 2) (by decide +kernel) rfl⟩ ⟨Nat.le_of_ble_eq_true rfl, Nat.le_of_ble_eq_true rfl⟩ ⟨Nat.le_of_ble_eq_true rfl, Nat.le_of_ble_eq_true rfl⟩ (Nat.le_of_ble_eq_true rfl) rfl dL_simulate_6 [] ⟨0, 11, 14, 13⟩ [] (htab9.trans rfl) (fun _ h9 => absurd h9 List.not_mem_nil) (by decide) (by decide) (by decide +kernel) (by decide +kernel) (fun q9 => ?_)
  refine v_astore [(5, .ref q9), (0, .ref (G 0)), (1, .long p0), (3, .int p1), (4, .ref (G 788))] dL_simulate_14 (by decide) rfl ?_
  refine v_iconst (nI 1) dL_simulate_16 (by decide +kernel) ?_
  refine v_wide 1 6 (by decide) (by decide) ?_
  refine v_iret rfl dL_simulate_17 ⟨σ', rfl, ⟨rfl, rfl⟩⟩

set_option maxHeartbeats 4000000 in
set_option maxRecDepth 100000 in
theorem w_save_0 (lu : Launch) (Dg : va_G) (E : Nat → ClassId) (N : Nat) (G : Nat → Nat) (shp : Nat → (Nat → Int32) → va_E) (σ : Nat → Nat → Int32) (hS : StoodS E G shp N) (hN : 788 < N) (hO : shp 788 = LoS E 1) {p0 : Int32} {P : Int32 → (Nat → Nat → Int32) → Prop} (hM : CX lu yX5_save wsX5_save { frames := 6, cells := 0, slots := 0, locals := 140 } Dg E N G shp σ [.ref (G 0), .int p0] (fun v τ => ∃ x, v = some (.int x) ∧ P x τ)) : CW lu yL_save wsL_save { frames := 8, cells := 1, slots := 6, locals := 181 } Dg E N G shp σ [.ref (G 0), .int p0, .ref (G 788)] (fun v τ => ∃ x τ0, v = some (.int (nI 0)) ∧ τ = st2 τ0 788 0 x ∧ P x τ0) := by
  refine CW.of (cc := cL_save) (maxL := 4) (ret := (some .int)) (by decide) rfl (Nat.le_of_ble_eq_true rfl) ?_
  intro p_ e_ s_ m_ args_ below_ meth_ c_ hX9 hC9 htab9
  refine v_eq (pc' := 0) (st' := []) rfl rfl ?_
  refine v_loc [0, 1, 2] [(0, .ref (G 0)), (1, .int p0), (2, .ref (G 788))] rfl ?_
  refine v_aload_n 2 dL_save_0 rfl rfl ?_
  refine v_iconst (nI 0) dL_save_1 (by decide +kernel) ?_
  refine v_aload_n 0 dL_save_2 rfl rfl ?_
  refine v_iload_n 1 dL_save_3 rfl rfl ?_
  refine u_callVx [.int p0] [.int (nI 0), .ref (G 788)] 1 (hM) (ci := 5) (C := RX5) (T := TX5) (NF := 6) hS.o.1 hS.o.2 rfl gL_save_X5_save rfl rfl rfl (by decide +kernel) rfl ⟨Nat.le_of_ble_eq_true rfl, Nat.le_of_ble_eq_true rfl⟩ ⟨Nat.le_of_ble_eq_true rfl, Nat.le_of_ble_eq_true rfl⟩ (Nat.le_of_ble_eq_true rfl) rfl dL_save_4 (fun v9 τ9 hp9 => ?_)
  obtain ⟨x9, rfl, hP9⟩ := hp9
  refine v_st (st' := [.int x9, .int (nI 0), .ref (G 788)]) rfl ?_
  refine v_i2l dL_save_7 ?_
  refine u_last (v := x9) 0 hN hO rfl (by omega) (by decide) dL_save_8 ?_
  generalize hσ1 : st2 τ9 788 0 (x9) = σ1
  refine v_goto 15 dL_save_9 rfl ?_
  refine v_iconst (nI 0) dL_save_15 (by decide +kernel) ?_
  refine v_wide 1 6 (by decide) (by decide) ?_
  refine v_iret rfl dL_save_16 ⟨σ1, rfl, ⟨x9, τ9, rfl, hσ1.symm, hP9⟩⟩

set_option maxHeartbeats 4000000 in
set_option maxRecDepth 100000 in
theorem w_save_1 (lu : Launch) (Dg : va_G) (E : Nat → ClassId) (N : Nat) (G : Nat → Nat) (shp : Nat → (Nat → Int32) → va_E) (σ : Nat → Nat → Int32) (hS : StoodS E G shp N) (hN : 788 < N) (hO : shp 788 = LoS E 1) {p0 : Int32} {σ' : Nat → Nat → Int32} (hM : Thr2 lu yX5_save wsX5_save { frames := 7, cells := 1, slots := 6, locals := 160 } Dg E N G (φ shp σ) (φ shp σ') [.ref (G 0), .int p0] "java/lang/IndexOutOfBoundsException") : CW lu yL_save wsL_save { frames := 8, cells := 1, slots := 6, locals := 181 } Dg E N G shp σ [.ref (G 0), .int p0, .ref (G 788)] (fun v τ => v = some (.int (nI 1)) ∧ τ = σ') := by
  refine CW.of (cc := cL_save) (maxL := 4) (ret := (some .int)) (by decide) rfl (Nat.le_of_ble_eq_true rfl) ?_
  intro p_ e_ s_ m_ args_ below_ meth_ c_ hX9 hC9 htab9
  refine v_eq (pc' := 0) (st' := []) rfl rfl ?_
  refine v_loc [0, 1, 2] [(0, .ref (G 0)), (1, .int p0), (2, .ref (G 788))] rfl ?_
  refine v_aload_n 2 dL_save_0 rfl rfl ?_
  refine v_iconst (nI 0) dL_save_1 (by decide +kernel) ?_
  refine v_aload_n 0 dL_save_2 rfl rfl ?_
  refine v_iload_n 1 dL_save_3 rfl rfl ?_
  refine v_catchV (As := [.int p0]) (rest := [.int (nI 0), .ref (G 788)]) (ci := 5) (C := RX5) (T := TX5) (NF := 6) hX9 hM hS.o.1 (ob_Φ hS.o.2) rfl gL_save_X5_save rfl rfl rfl ⟨rfl, by decide +kernel, by decide +kernel, Eq.trans (b := some 1) (by decide +kernel) rfl⟩ ⟨Nat.le_of_ble_eq_true rfl, Nat.le_of_ble_eq_true rfl⟩ ⟨Nat.le_of_ble_eq_true rfl, Nat.le_of_ble_eq_true rfl⟩ (Nat.le_of_ble_eq_true rfl) rfl dL_save_4 [] ⟨0, 9, 12, 28⟩ [] (htab9.trans rfl) (fun _ h9 => absurd h9 List.not_mem_nil) (by decide) (by decide) (by decide +kernel) (by decide +kernel) (fun q9 => ?_)
  refine v_astore_n [(3, .ref q9), (0, .ref (G 0)), (1, .int p0), (2, .ref (G 788))] dL_save_12 rfl (by decide) rfl ?_
  refine v_iconst (nI 1) dL_save_13 (by decide +kernel) ?_
  refine v_wide 1 6 (by decide) (by decide) ?_
  refine v_iret rfl dL_save_14 ⟨σ', rfl, ⟨rfl, rfl⟩⟩

set_option maxHeartbeats 4000000 in
set_option maxRecDepth 100000 in
theorem w_restore_0 (lu : Launch) (Dg : va_G) (E : Nat → ClassId) (N : Nat) (G : Nat → Nat) (shp : Nat → (Nat → Int32) → va_E) (σ : Nat → Nat → Int32) (hS : StoodS E G shp N) (hN : 788 < N) (hO : shp 788 = LoS E 1) {p0 : Int32} {P : Int32 → (Nat → Nat → Int32) → Prop} (hM : CX lu yX5_restore wsX5_restore { frames := 6, cells := 0, slots := 0, locals := 140 } Dg E N G shp σ [.ref (G 0), .int p0] (fun v τ => ∃ x, v = some (.int x) ∧ P x τ)) : CW lu yL_restore wsL_restore { frames := 8, cells := 1, slots := 6, locals := 181 } Dg E N G shp σ [.ref (G 0), .int p0, .ref (G 788)] (fun v τ => ∃ x τ0, v = some (.int (nI 0)) ∧ τ = st2 τ0 788 0 x ∧ P x τ0) := by
  refine CW.of (cc := cL_restore) (maxL := 4) (ret := (some .int)) (by decide) rfl (Nat.le_of_ble_eq_true rfl) ?_
  intro p_ e_ s_ m_ args_ below_ meth_ c_ hX9 hC9 htab9
  refine v_eq (pc' := 0) (st' := []) rfl rfl ?_
  refine v_loc [0, 1, 2] [(0, .ref (G 0)), (1, .int p0), (2, .ref (G 788))] rfl ?_
  refine v_aload_n 2 dL_restore_0 rfl rfl ?_
  refine v_iconst (nI 0) dL_restore_1 (by decide +kernel) ?_
  refine v_aload_n 0 dL_restore_2 rfl rfl ?_
  refine v_iload_n 1 dL_restore_3 rfl rfl ?_
  refine u_callVx [.int p0] [.int (nI 0), .ref (G 788)] 1 (hM) (ci := 5) (C := RX5) (T := TX5) (NF := 6) hS.o.1 hS.o.2 rfl gL_restore_X5_restore rfl rfl rfl (by decide +kernel) rfl ⟨Nat.le_of_ble_eq_true rfl, Nat.le_of_ble_eq_true rfl⟩ ⟨Nat.le_of_ble_eq_true rfl, Nat.le_of_ble_eq_true rfl⟩ (Nat.le_of_ble_eq_true rfl) rfl dL_restore_4 (fun v9 τ9 hp9 => ?_)
  obtain ⟨x9, rfl, hP9⟩ := hp9
  refine v_st (st' := [.int x9, .int (nI 0), .ref (G 788)]) rfl ?_
  refine v_i2l dL_restore_7 ?_
  refine u_last (v := x9) 0 hN hO rfl (by omega) (by decide) dL_restore_8 ?_
  generalize hσ1 : st2 τ9 788 0 (x9) = σ1
  refine v_goto 18 dL_restore_9 rfl ?_
  refine v_iconst (nI 0) dL_restore_18 (by decide +kernel) ?_
  refine v_wide 1 6 (by decide) (by decide) ?_
  refine v_iret rfl dL_restore_19 ⟨σ1, rfl, ⟨x9, τ9, rfl, hσ1.symm, hP9⟩⟩

set_option maxHeartbeats 4000000 in
set_option maxRecDepth 100000 in
theorem w_restore_1 (lu : Launch) (Dg : va_G) (E : Nat → ClassId) (N : Nat) (G : Nat → Nat) (shp : Nat → (Nat → Int32) → va_E) (σ : Nat → Nat → Int32) (hS : StoodS E G shp N) (hN : 788 < N) (hO : shp 788 = LoS E 1) {p0 : Int32} {σ' : Nat → Nat → Int32} (hM : Thr2 lu yX5_restore wsX5_restore { frames := 7, cells := 1, slots := 6, locals := 160 } Dg E N G (φ shp σ) (φ shp σ') [.ref (G 0), .int p0] "java/lang/IndexOutOfBoundsException") : CW lu yL_restore wsL_restore { frames := 8, cells := 1, slots := 6, locals := 181 } Dg E N G shp σ [.ref (G 0), .int p0, .ref (G 788)] (fun v τ => v = some (.int (nI 1)) ∧ τ = σ') := by
  refine CW.of (cc := cL_restore) (maxL := 4) (ret := (some .int)) (by decide) rfl (Nat.le_of_ble_eq_true rfl) ?_
  intro p_ e_ s_ m_ args_ below_ meth_ c_ hX9 hC9 htab9
  refine v_eq (pc' := 0) (st' := []) rfl rfl ?_
  refine v_loc [0, 1, 2] [(0, .ref (G 0)), (1, .int p0), (2, .ref (G 788))] rfl ?_
  refine v_aload_n 2 dL_restore_0 rfl rfl ?_
  refine v_iconst (nI 0) dL_restore_1 (by decide +kernel) ?_
  refine v_aload_n 0 dL_restore_2 rfl rfl ?_
  refine v_iload_n 1 dL_restore_3 rfl rfl ?_
  refine v_catchV (As := [.int p0]) (rest := [.int (nI 0), .ref (G 788)]) (ci := 5) (C := RX5) (T := TX5) (NF := 6) hX9 hM hS.o.1 (ob_Φ hS.o.2) rfl gL_restore_X5_restore rfl rfl rfl ⟨rfl, by decide +kernel, by decide +kernel, Eq.trans (b := some 1) (by decide +kernel) rfl⟩ ⟨Nat.le_of_ble_eq_true rfl, Nat.le_of_ble_eq_true rfl⟩ ⟨Nat.le_of_ble_eq_true rfl, Nat.le_of_ble_eq_true rfl⟩ (Nat.le_of_ble_eq_true rfl) rfl dL_restore_4 [] ⟨0, 9, 12, 28⟩ [⟨0, 9, 15, 15⟩] (htab9.trans rfl) (fun _ h9 => absurd h9 List.not_mem_nil) (by decide) (by decide) (by decide +kernel) (by decide +kernel) (fun q9 => ?_)
  refine v_astore_n [(3, .ref q9), (0, .ref (G 0)), (1, .int p0), (2, .ref (G 788))] dL_restore_12 rfl (by decide) rfl ?_
  refine v_iconst (nI 1) dL_restore_13 (by decide +kernel) ?_
  refine v_wide 1 6 (by decide) (by decide) ?_
  refine v_iret rfl dL_restore_14 ⟨σ', rfl, ⟨rfl, rfl⟩⟩

set_option maxHeartbeats 4000000 in
set_option maxRecDepth 100000 in
theorem w_restore_2 (lu : Launch) (Dg : va_G) (E : Nat → ClassId) (N : Nat) (G : Nat → Nat) (shp : Nat → (Nat → Int32) → va_E) (σ : Nat → Nat → Int32) (hS : StoodS E G shp N) (hN : 788 < N) (hO : shp 788 = LoS E 1) {p0 : Int32} {σ' : Nat → Nat → Int32} (hM : Thr2 lu yX5_restore wsX5_restore { frames := 7, cells := 1, slots := 6, locals := 160 } Dg E N G (φ shp σ) (φ shp σ') [.ref (G 0), .int p0] "java/lang/IllegalStateException") : CW lu yL_restore wsL_restore { frames := 8, cells := 1, slots := 6, locals := 181 } Dg E N G shp σ [.ref (G 0), .int p0, .ref (G 788)] (fun v τ => v = some (.int (nI 2)) ∧ τ = σ') := by
  refine CW.of (cc := cL_restore) (maxL := 4) (ret := (some .int)) (by decide) rfl (Nat.le_of_ble_eq_true rfl) ?_
  intro p_ e_ s_ m_ args_ below_ meth_ c_ hX9 hC9 htab9
  refine v_eq (pc' := 0) (st' := []) rfl rfl ?_
  refine v_loc [0, 1, 2] [(0, .ref (G 0)), (1, .int p0), (2, .ref (G 788))] rfl ?_
  refine v_aload_n 2 dL_restore_0 rfl rfl ?_
  refine v_iconst (nI 0) dL_restore_1 (by decide +kernel) ?_
  refine v_aload_n 0 dL_restore_2 rfl rfl ?_
  refine v_iload_n 1 dL_restore_3 rfl rfl ?_
  refine v_catchV (As := [.int p0]) (rest := [.int (nI 0), .ref (G 788)]) (ci := 5) (C := RX5) (T := TX5) (NF := 6) hX9 hM hS.o.1 (ob_Φ hS.o.2) rfl gL_restore_X5_restore rfl rfl rfl ⟨rfl, by decide +kernel, by decide +kernel, Eq.trans (b := some 1) (by decide +kernel) rfl⟩ ⟨Nat.le_of_ble_eq_true rfl, Nat.le_of_ble_eq_true rfl⟩ ⟨Nat.le_of_ble_eq_true rfl, Nat.le_of_ble_eq_true rfl⟩ (Nat.le_of_ble_eq_true rfl) rfl dL_restore_4 [⟨0, 9, 12, 28⟩] ⟨0, 9, 15, 15⟩ [] (htab9.trans rfl) (fun z9 h9 => by rw [List.mem_singleton] at h9; subst h9; exact Or.inr ⟨by decide, "java/lang/IndexOutOfBoundsException", by decide +kernel, hC9.2.1⟩) (by decide) (by decide) (by decide +kernel) (by decide +kernel) (fun q9 => ?_)
  refine v_astore_n [(3, .ref q9), (0, .ref (G 0)), (1, .int p0), (2, .ref (G 788))] dL_restore_15 rfl (by decide) rfl ?_
  refine v_iconst (nI 2) dL_restore_16 (by decide +kernel) ?_
  refine v_wide 1 6 (by decide) (by decide) ?_
  refine v_iret rfl dL_restore_17 ⟨σ', rfl, ⟨rfl, rfl⟩⟩
