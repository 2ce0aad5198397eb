set_option maxHeartbeats 4000000 in
set_option maxRecDepth 100000 in
theorem w_append_0 (lu : Launch) (Dg : va_G) (E : Nat → ClassId) (N : Nat) (G : Nat → Nat) (shp : Nat → (Nat → Int32) → va_E) (σ : Nat → Nat → Int32) (hS : StoodS E G shp N) (hN : 788 < N) (hO : shp 788 = LoS E 1) {p0 : Int32} {P : Int32 → (Nat → Nat → Int32) → Prop} (hM : CX lu yX5_append wsX5_append { frames := 5, cells := 0, slots := 0, locals := 120 } Dg E N G shp σ [.ref (G 0), .int p0] (fun v τ => ∃ x, v = some (.int x) ∧ P x τ)) : CW lu yL_append wsL_append { frames := 7, cells := 1, slots := 6, locals := 161 } Dg E N G shp σ [.ref (G 0), .int p0, .ref (G 788)] (fun v τ => ∃ x τ0, v = some (.int (nI 0)) ∧ τ = st2 τ0 788 0 x ∧ P x τ0) := by
  refine CW.of (cc := cL_append) (maxL := 4) (ret := (some .int)) (by decide) rfl (Nat.le_of_ble_eq_true rfl) ?_
  intro p_ e_ s_ m_ args_ below_ meth_ c_ hX9 hC9 htab9
  refine v_eq (pc' := 0) (st' := []) rfl rfl ?_
  refine v_loc [0, 1, 2] [(0, .ref (G 0)), (1, .int p0), (2, .ref (G 788))] rfl ?_
  refine v_aload_n 2 dL_append_0 rfl rfl ?_
  refine v_iconst (nI 0) dL_append_1 (by decide +kernel) ?_
  refine v_aload_n 0 dL_append_2 rfl rfl ?_
  refine v_iload_n 1 dL_append_3 rfl rfl ?_
  refine u_callVx [.int p0] [.int (nI 0), .ref (G 788)] 1 (hM) (ci := 5) (C := RX5) (T := TX5) (NF := 6) hS.o.1 hS.o.2 rfl gL_append_X5_append rfl rfl rfl (by decide +kernel) rfl ⟨Nat.le_of_ble_eq_true rfl, Nat.le_of_ble_eq_true rfl⟩ ⟨Nat.le_of_ble_eq_true rfl, Nat.le_of_ble_eq_true rfl⟩ (Nat.le_of_ble_eq_true rfl) rfl dL_append_4 (fun v9 τ9 hp9 => ?_)
  obtain ⟨x9, rfl, hP9⟩ := hp9
  refine v_st (st' := [.int x9, .int (nI 0), .ref (G 788)]) rfl ?_
  refine v_i2l dL_append_7 ?_
  refine u_last (v := x9) 0 hN hO rfl (by omega) (by decide) dL_append_8 ?_
  generalize hσ1 : st2 τ9 788 0 (x9) = σ1
  refine v_goto 18 dL_append_9 rfl ?_
  refine v_iconst (nI 0) dL_append_18 (by decide +kernel) ?_
  refine v_wide 1 6 (by decide) (by decide) ?_
  refine v_iret rfl dL_append_19 ⟨σ1, rfl, ⟨x9, τ9, rfl, hσ1.symm, hP9⟩⟩

set_option maxHeartbeats 4000000 in
set_option maxRecDepth 100000 in
theorem w_append_1 (lu : Launch) (Dg : va_G) (E : Nat → ClassId) (N : Nat) (G : Nat → Nat) (shp : Nat → (Nat → Int32) → va_E) (σ : Nat → Nat → Int32) (hS : StoodS E G shp N) (hN : 788 < N) (hO : shp 788 = LoS E 1) {p0 : Int32} {σ' : Nat → Nat → Int32} (hM : Thr2 lu yX5_append wsX5_append { frames := 6, cells := 1, slots := 6, locals := 140 } Dg E N G (φ shp σ) (φ shp σ') [.ref (G 0), .int p0] "java/lang/IllegalArgumentException") : CW lu yL_append wsL_append { frames := 7, cells := 1, slots := 6, locals := 161 } Dg E N G shp σ [.ref (G 0), .int p0, .ref (G 788)] (fun v τ => v = some (.int (nI 1)) ∧ τ = σ') := by
  refine CW.of (cc := cL_append) (maxL := 4) (ret := (some .int)) (by decide) rfl (Nat.le_of_ble_eq_true rfl) ?_
  intro p_ e_ s_ m_ args_ below_ meth_ c_ hX9 hC9 htab9
  refine v_eq (pc' := 0) (st' := []) rfl rfl ?_
  refine v_loc [0, 1, 2] [(0, .ref (G 0)), (1, .int p0), (2, .ref (G 788))] rfl ?_
  refine v_aload_n 2 dL_append_0 rfl rfl ?_
  refine v_iconst (nI 0) dL_append_1 (by decide +kernel) ?_
  refine v_aload_n 0 dL_append_2 rfl rfl ?_
  refine v_iload_n 1 dL_append_3 rfl rfl ?_
  refine v_catchV (As := [.int p0]) (rest := [.int (nI 0), .ref (G 788)]) (ci := 5) (C := RX5) (T := TX5) (NF := 6) hX9 hM hS.o.1 (ob_Φ hS.o.2) rfl gL_append_X5_append rfl rfl rfl ⟨rfl, by decide +kernel, by decide +kernel, Eq.trans (b := some 1) (by decide +kernel) rfl⟩ ⟨Nat.le_of_ble_eq_true rfl, Nat.le_of_ble_eq_true rfl⟩ ⟨Nat.le_of_ble_eq_true rfl, Nat.le_of_ble_eq_true rfl⟩ (Nat.le_of_ble_eq_true rfl) rfl dL_append_4 [] ⟨0, 9, 12, 13⟩ [⟨0, 9, 15, 15⟩] (htab9.trans rfl) (fun _ h9 => absurd h9 List.not_mem_nil) (by decide) (by decide) (by decide +kernel) (by decide +kernel) (fun q9 => ?_)
  refine v_astore_n [(3, .ref q9), (0, .ref (G 0)), (1, .int p0), (2, .ref (G 788))] dL_append_12 rfl (by decide) rfl ?_
  refine v_iconst (nI 1) dL_append_13 (by decide +kernel) ?_
  refine v_wide 1 6 (by decide) (by decide) ?_
  refine v_iret rfl dL_append_14 ⟨σ', rfl, ⟨rfl, rfl⟩⟩

set_option maxHeartbeats 4000000 in
set_option maxRecDepth 100000 in
theorem w_append_2 (lu : Launch) (Dg : va_G) (E : Nat → ClassId) (N : Nat) (G : Nat → Nat) (shp : Nat → (Nat → Int32) → va_E) (σ : Nat → Nat → Int32) (hS : StoodS E G shp N) (hN : 788 < N) (hO : shp 788 = LoS E 1) {p0 : Int32} {σ' : Nat → Nat → Int32} (hM : Thr2 lu yX5_append wsX5_append { frames := 6, cells := 1, slots := 6, locals := 140 } Dg E N G (φ shp σ) (φ shp σ') [.ref (G 0), .int p0] "java/lang/IllegalStateException") : CW lu yL_append wsL_append { frames := 7, cells := 1, slots := 6, locals := 161 } Dg E N G shp σ [.ref (G 0), .int p0, .ref (G 788)] (fun v τ => v = some (.int (nI 2)) ∧ τ = σ') := by
  refine CW.of (cc := cL_append) (maxL := 4) (ret := (some .int)) (by decide) rfl (Nat.le_of_ble_eq_true rfl) ?_
  intro p_ e_ s_ m_ args_ below_ meth_ c_ hX9 hC9 htab9
  refine v_eq (pc' := 0) (st' := []) rfl rfl ?_
  refine v_loc [0, 1, 2] [(0, .ref (G 0)), (1, .int p0), (2, .ref (G 788))] rfl ?_
  refine v_aload_n 2 dL_append_0 rfl rfl ?_
  refine v_iconst (nI 0) dL_append_1 (by decide +kernel) ?_
  refine v_aload_n 0 dL_append_2 rfl rfl ?_
  refine v_iload_n 1 dL_append_3 rfl rfl ?_
  refine v_catchV (As := [.int p0]) (rest := [.int (nI 0), .ref (G 788)]) (ci := 5) (C := RX5) (T := TX5) (NF := 6) hX9 hM hS.o.1 (ob_Φ hS.o.2) rfl gL_append_X5_append rfl rfl rfl ⟨rfl, by decide +kernel, by decide +kernel, Eq.trans (b := some 1) (by decide +kernel) rfl⟩ ⟨Nat.le_of_ble_eq_true rfl, Nat.le_of_ble_eq_true rfl⟩ ⟨Nat.le_of_ble_eq_true rfl, Nat.le_of_ble_eq_true rfl⟩ (Nat.le_of_ble_eq_true rfl) rfl dL_append_4 [⟨0, 9, 12, 13⟩] ⟨0, 9, 15, 15⟩ [] (htab9.trans rfl) (fun z9 h9 => by rw [List.mem_singleton] at h9; subst h9; exact Or.inr ⟨by decide, "java/lang/IllegalArgumentException", by decide +kernel, hC9.2.2⟩) (by decide) (by decide) (by decide +kernel) (by decide +kernel) (fun q9 => ?_)
  refine v_astore_n [(3, .ref q9), (0, .ref (G 0)), (1, .int p0), (2, .ref (G 788))] dL_append_15 rfl (by decide) rfl ?_
  refine v_iconst (nI 2) dL_append_16 (by decide +kernel) ?_
  refine v_wide 1 6 (by decide) (by decide) ?_
  refine v_iret rfl dL_append_17 ⟨σ', rfl, ⟨rfl, rfl⟩⟩

set_option maxHeartbeats 4000000 in
set_option maxRecDepth 100000 in
theorem w_load_0 (lu : Launch) (Dg : va_G) (E : Nat → ClassId) (N : Nat) (G : Nat → Nat) (shp : Nat → (Nat → Int32) → va_E) (σ : Nat → Nat → Int32) (hS : StoodS E G shp N) (hN : 788 < N) (hO : shp 788 = LoS E 1)  {P : Int32 → (Nat → Nat → Int32) → Prop} (hM : CXX lu yX5_load wsX5_load { frames := 6, cells := 0, slots := 0, locals := 137 } Dg E N G shp σ [.ref (G 0)] (fun v τ => ∃ x, v = some (.int x) ∧ P x τ)) : CW lu yL_load wsL_load { frames := 8, cells := 1, slots := 6, locals := 178 } Dg E N G shp σ [.ref (G 0), .ref (G 788)] (fun v τ => ∃ x τ0, v = some (.int (nI 0)) ∧ τ = st2 τ0 788 0 x ∧ P x τ0) := by
  refine CW.of (cc := cL_load) (maxL := 3) (ret := (some .int)) (by decide) rfl (Nat.le_of_ble_eq_true rfl) ?_
  intro p_ e_ s_ m_ args_ below_ meth_ c_ hX9 hC9 htab9
  refine v_eq (pc' := 0) (st' := []) rfl rfl ?_
  refine v_loc [0, 1] [(0, .ref (G 0)), (1, .ref (G 788))] rfl ?_
  refine v_aload_n 1 dL_load_0 rfl rfl ?_
  refine v_iconst (nI 0) dL_load_1 (by decide +kernel) ?_
  refine v_aload_n 0 dL_load_2 rfl rfl ?_
  refine u_callVXx hX9 [] [.int (nI 0), .ref (G 788)] 0 (hM) (ci := 5) (C := RX5) (T := TX5) (NF := 6) hS.o.1 hS.o.2 rfl gL_load_X5_load rfl rfl rfl (by decide +kernel) rfl ⟨Nat.le_of_ble_eq_true rfl, Nat.le_of_ble_eq_true rfl⟩ ⟨Nat.le_of_ble_eq_true rfl, Nat.le_of_ble_eq_true rfl⟩ (Nat.le_of_ble_eq_true rfl) rfl dL_load_3 (fun v9 τ9 hp9 => ?_)
  obtain ⟨x9, rfl, hP9⟩ := hp9
  refine v_st (st' := [.int x9, .int (nI 0), .ref (G 788)]) rfl ?_
  refine v_i2l dL_load_6 ?_
  refine u_last (v := x9) 0 hN hO rfl (by omega) (by decide) dL_load_7 ?_
  generalize hσ1 : st2 τ9 788 0 (x9) = σ1
  refine v_goto 14 dL_load_8 rfl ?_
  refine v_iconst (nI 0) dL_load_14 (by decide +kernel) ?_
  refine v_wide 1 6 (by decide) (by decide) ?_
  refine v_iret rfl dL_load_15 ⟨σ1, rfl, ⟨x9, τ9, rfl, hσ1.symm, hP9⟩⟩

set_option maxHeartbeats 4000000 in
set_option maxRecDepth 100000 in
theorem w_load_1 (lu : Launch) (Dg : va_G) (E : Nat → ClassId) (N : Nat) (G : Nat → Nat) (shp : Nat → (Nat → Int32) → va_E) (σ : Nat → Nat → Int32) (hS : StoodS E G shp N) (hN : 788 < N) (hO : shp 788 = LoS E 1)  {σ' : Nat → Nat → Int32} (hM : Thr2 lu yX5_load wsX5_load { frames := 7, cells := 1, slots := 6, locals := 157 } Dg E N G (φ shp σ) (φ shp σ') [.ref (G 0)] "java/lang/IllegalStateException") : CW lu yL_load wsL_load { frames := 8, cells := 1, slots := 6, locals := 178 } Dg E N G shp σ [.ref (G 0), .ref (G 788)] (fun v τ => v = some (.int (nI 1)) ∧ τ = σ') := by
  refine CW.of (cc := cL_load) (maxL := 3) (ret := (some .int)) (by decide) rfl (Nat.le_of_ble_eq_true rfl) ?_
  intro p_ e_ s_ m_ args_ below_ meth_ c_ hX9 hC9 htab9
  refine v_eq (pc' := 0) (st' := []) rfl rfl ?_
  refine v_loc [0, 1] [(0, .ref (G 0)), (1, .ref (G 788))] rfl ?_
  refine v_aload_n 1 dL_load_0 rfl rfl ?_
  refine v_iconst (nI 0) dL_load_1 (by decide +kernel) ?_
  refine v_aload_n 0 dL_load_2 rfl rfl ?_
  refine v_catchV (As := []) (rest := [.int (nI 0), .ref (G 788)]) (ci := 5) (C := RX5) (T := TX5) (NF := 6) hX9 hM hS.o.1 (ob_Φ hS.o.2) rfl gL_load_X5_load rfl rfl rfl ⟨rfl, by decide +kernel, by decide +kernel, Eq.trans (b := some 0) (by decide +kernel) rfl⟩ ⟨Nat.le_of_ble_eq_true rfl, Nat.le_of_ble_eq_true rfl⟩ ⟨Nat.le_of_ble_eq_true rfl, Nat.le_of_ble_eq_true rfl⟩ (Nat.le_of_ble_eq_true rfl) rfl dL_load_3 [] ⟨0, 8, 11, 15⟩ [] (htab9.trans rfl) (fun _ h9 => absurd h9 List.not_mem_nil) (by decide) (by decide) (by decide +kernel) (by decide +kernel) (fun q9 => ?_)
  refine v_astore_n [(2, .ref q9), (0, .ref (G 0)), (1, .ref (G 788))] dL_load_11 rfl (by decide) rfl ?_
  refine v_iconst (nI 1) dL_load_12 (by decide +kernel) ?_
  refine v_wide 1 6 (by decide) (by decide) ?_
  refine v_iret rfl dL_load_13 ⟨σ', rfl, ⟨rfl, rfl⟩⟩

set_option maxHeartbeats 4000000 in
set_option maxRecDepth 100000 in
theorem w_about_0 (lu : Launch) (Dg : va_G) (E : Nat → ClassId) (N : Nat) (G : Nat → Nat) (shp : Nat → (Nat → Int32) → va_E) (σ : Nat → Nat → Int32) (hS : StoodS E G shp N) (hN : 788 < N) (hO : shp 788 = LoS E 1) {p0 : Int32} {P : Int32 → (Nat → Nat → Int32) → Prop} (hM : CX lu yX5_about wsX5_about { frames := 5, cells := 0, slots := 0, locals := 120 } Dg E N G shp σ [.ref (G 0), .int p0] (fun v τ => ∃ x, v = some (.int x) ∧ P x τ)) : CW lu yL_about wsL_about { frames := 7, cells := 1, slots := 6, locals := 161 } Dg E N G shp σ [.ref (G 0), .int p0, .ref (G 788)] (fun v τ => ∃ x τ0, v = some (.int (nI 0)) ∧ τ = st2 τ0 788 0 x ∧ P x τ0) := by
  refine CW.of (cc := cL_about) (maxL := 4) (ret := (some .int)) (by decide) rfl (Nat.le_of_ble_eq_true rfl) ?_
  intro p_ e_ s_ m_ args_ below_ meth_ c_ hX9 hC9 htab9
  refine v_eq (pc' := 0) (st' := []) rfl rfl ?_
  refine v_loc [0, 1, 2] [(0, .ref (G 0)), (1, .int p0), (2, .ref (G 788))] rfl ?_
  refine v_aload_n 2 dL_about_0 rfl rfl ?_
  refine v_iconst (nI 0) dL_about_1 (by decide +kernel) ?_
  refine v_aload_n 0 dL_about_2 rfl rfl ?_
  refine v_iload_n 1 dL_about_3 rfl rfl ?_
  refine u_callVx [.int p0] [.int (nI 0), .ref (G 788)] 1 (hM) (ci := 5) (C := RX5) (T := TX5) (NF := 6) hS.o.1 hS.o.2 rfl gL_about_X5_about rfl rfl rfl (by decide +kernel) rfl ⟨Nat.le_of_ble_eq_true rfl, Nat.le_of_ble_eq_true rfl⟩ ⟨Nat.le_of_ble_eq_true rfl, Nat.le_of_ble_eq_true rfl⟩ (Nat.le_of_ble_eq_true rfl) rfl dL_about_4 (fun v9 τ9 hp9 => ?_)
  obtain ⟨x9, rfl, hP9⟩ := hp9
  refine v_st (st' := [.int x9, .int (nI 0), .ref (G 788)]) rfl ?_
  refine v_i2l dL_about_7 ?_
  refine u_last (v := x9) 0 hN hO rfl (by omega) (by decide) dL_about_8 ?_
  generalize hσ1 : st2 τ9 788 0 (x9) = σ1
  refine v_goto 15 dL_about_9 rfl ?_
  refine v_iconst (nI 0) dL_about_15 (by decide +kernel) ?_
  refine v_wide 1 6 (by decide) (by decide) ?_
  refine v_iret rfl dL_about_16 ⟨σ1, rfl, ⟨x9, τ9, rfl, hσ1.symm, hP9⟩⟩

set_option maxHeartbeats 4000000 in
set_option maxRecDepth 100000 in
theorem w_about_1 (lu : Launch) (Dg : va_G) (E : Nat → ClassId) (N : Nat) (G : Nat → Nat) (shp : Nat → (Nat → Int32) → va_E) (σ : Nat → Nat → Int32) (hS : StoodS E G shp N) (hN : 788 < N) (hO : shp 788 = LoS E 1) {p0 : Int32} {σ' : Nat → Nat → Int32} (hM : Thr2 lu yX5_about wsX5_about { frames := 6, cells := 1, slots := 6, locals := 140 } Dg E N G (φ shp σ) (φ shp σ') [.ref (G 0), .int p0] "java/lang/IllegalArgumentException") : CW lu yL_about wsL_about { frames := 7, cells := 1, slots := 6, locals := 161 } Dg E N G shp σ [.ref (G 0), .int p0, .ref (G 788)] (fun v τ => v = some (.int (nI 1)) ∧ τ = σ') := by
  refine CW.of (cc := cL_about) (maxL := 4) (ret := (some .int)) (by decide) rfl (Nat.le_of_ble_eq_true rfl) ?_
  intro p_ e_ s_ m_ args_ below_ meth_ c_ hX9 hC9 htab9
  refine v_eq (pc' := 0) (st' := []) rfl rfl ?_
  refine v_loc [0, 1, 2] [(0, .ref (G 0)), (1, .int p0), (2, .ref (G 788))] rfl ?_
  refine v_aload_n 2 dL_about_0 rfl rfl ?_
  refine v_iconst (nI 0) dL_about_1 (by decide +kernel) ?_
  refine v_aload_n 0 dL_about_2 rfl rfl ?_
  refine v_iload_n 1 dL_about_3 rfl rfl ?_
  refine v_catchV (As := [.int p0]) (rest := [.int (nI 0), .ref (G 788)]) (ci := 5) (C := RX5) (T := TX5) (NF := 6) hX9 hM hS.o.1 (ob_Φ hS.o.2) rfl gL_about_X5_about rfl rfl rfl ⟨rfl, by decide +kernel, by decide +kernel, Eq.trans (b := some 1) (by decide +kernel) rfl⟩ ⟨Nat.le_of_ble_eq_true rfl, Nat.le_of_ble_eq_true rfl⟩ ⟨Nat.le_of_ble_eq_true rfl, Nat.le_of_ble_eq_true rfl⟩ (Nat.le_of_ble_eq_true rfl) rfl dL_about_4 [] ⟨0, 9, 12, 13⟩ [] (htab9.trans rfl) (fun _ h9 => absurd h9 List.not_mem_nil) (by decide) (by decide) (by decide +kernel) (by decide +kernel) (fun q9 => ?_)
  refine v_astore_n [(3, .ref q9), (0, .ref (G 0)), (1, .int p0), (2, .ref (G 788))] dL_about_12 rfl (by decide) rfl ?_
  refine v_iconst (nI 1) dL_about_13 (by decide +kernel) ?_
  refine v_wide 1 6 (by decide) (by decide) ?_
  refine v_iret rfl dL_about_14 ⟨σ', rfl, ⟨rfl, rfl⟩⟩

set_option maxHeartbeats 4000000 in
set_option maxRecDepth 100000 in
theorem w_line_0 (lu : Launch) (Dg : va_G) (E : Nat → ClassId) (N : Nat) (G : Nat → Nat) (shp : Nat → (Nat → Int32) → va_E) (σ : Nat → Nat → Int32) (hS : StoodS E G shp N) (hN : 788 < N) (hO : shp 788 = LoS E 1) {p0 : Int32} {p1 : Int32} {P : Int32 → (Nat → Nat → Int32) → Prop} (hM : CX lu yX5_line wsX5_line { frames := 6, cells := 0, slots := 0, locals := 141 } Dg E N G shp σ [.ref (G 0), .int p0, .int p1] (fun v τ => ∃ x, v = some (.int x) ∧ P x τ)) : CW lu yL_line wsL_line { frames := 8, cells := 1, slots := 6, locals := 183 } Dg E N G shp σ [.ref (G 0), .int p0, .int p1, .ref (G 788)] (fun v τ => ∃ x τ0, v = some (.int (nI 0)) ∧ τ = st2 τ0 788 0 x ∧ P x τ0) := by
  refine CW.of (cc := cL_line) (maxL := 5) (ret := (some .int)) (by decide) rfl (Nat.le_of_ble_eq_true rfl) ?_
  intro p_ e_ s_ m_ args_ below_ meth_ c_ hX9 hC9 htab9
  refine v_eq (pc' := 0) (st' := []) rfl rfl ?_
  refine v_loc [0, 1, 2, 3] [(0, .ref (G 0)), (1, .int p0), (2, .int p1), (3, .ref (G 788))] rfl ?_
  refine v_aload_n 3 dL_line_0 rfl rfl ?_
  refine v_iconst (nI 0) dL_line_1 (by decide +kernel) ?_
  refine v_aload_n 0 dL_line_2 rfl rfl ?_
  refine v_iload_n 1 dL_line_3 rfl rfl ?_
  refine v_iload_n 2 dL_line_4 rfl rfl ?_
  refine u_callVx [.int p0, .int p1] [.int (nI 0), .ref (G 788)] 2 (hM) (ci := 5) (C := RX5) (T := TX5) (NF := 6) hS.o.1 hS.o.2 rfl gL_line_X5_line rfl rfl rfl (by decide +kernel) rfl ⟨Nat.le_of_ble_eq_true rfl, Nat.le_of_ble_eq_true rfl⟩ ⟨Nat.le_of_ble_eq_true rfl, Nat.le_of_ble_eq_true rfl⟩ (Nat.le_of_ble_eq_true rfl) rfl dL_line_5 (fun v9 τ9 hp9 => ?_)
  obtain ⟨x9, rfl, hP9⟩ := hp9
  refine v_st (st' := [.int x9, .int (nI 0), .ref (G 788)]) rfl ?_
  refine v_i2l dL_line_8 ?_
  refine u_last (v := x9) 0 hN hO rfl (by omega) (by decide) dL_line_9 ?_
  generalize hσ1 : st2 τ9 788 0 (x9) = σ1
  refine v_goto 21 dL_line_10 rfl ?_
  refine v_iconst (nI 0) dL_line_21 (by decide +kernel) ?_
  refine v_wide 1 6 (by decide) (by decide) ?_
  refine v_iret rfl dL_line_22 ⟨σ1, rfl, ⟨x9, τ9, rfl, hσ1.symm, hP9⟩⟩

set_option maxHeartbeats 4000000 in
set_option maxRecDepth 100000 in
theorem w_line_1 (lu : Launch) (Dg : va_G) (E : Nat → ClassId) (N : Nat) (G : Nat → Nat) (shp : Nat → (Nat → Int32) → va_E) (σ : Nat → Nat → Int32) (hS : StoodS E G shp N) (hN : 788 < N) (hO : shp 788 = LoS E 1) {p0 : Int32} {p1 : Int32} {σ' : Nat → Nat → Int32} (hM : Thr2 lu yX5_line wsX5_line { frames := 7, cells := 1, slots := 6, locals := 161 } Dg E N G (φ shp σ) (φ shp σ') [.ref (G 0), .int p0, .int p1] "java/lang/IndexOutOfBoundsException") : CW lu yL_line wsL_line { frames := 8, cells := 1, slots := 6, locals := 183 } Dg E N G shp σ [.ref (G 0), .int p0, .int p1, .ref (G 788)] (fun v τ => v = some (.int (nI 1)) ∧ τ = σ') := by
  refine CW.of (cc := cL_line) (maxL := 5) (ret := (some .int)) (by decide) rfl (Nat.le_of_ble_eq_true rfl) ?_
  intro p_ e_ s_ m_ args_ below_ meth_ c_ hX9 hC9 htab9
  refine v_eq (pc' := 0) (st' := []) rfl rfl ?_
  refine v_loc [0, 1, 2, 3] [(0, .ref (G 0)), (1, .int p0), (2, .int p1), (3, .ref (G 788))] rfl ?_
  refine v_aload_n 3 dL_line_0 rfl rfl ?_
  refine v_iconst (nI 0) dL_line_1 (by decide +kernel) ?_
  refine v_aload_n 0 dL_line_2 rfl rfl ?_
  refine v_iload_n 1 dL_line_3 rfl rfl ?_
  refine v_iload_n 2 dL_line_4 rfl rfl ?_
  refine v_catchV (As := [.int p0, .int p1]) (rest := [.int (nI 0), .ref (G 788)]) (ci := 5) (C := RX5) (T := TX5) (NF := 6) hX9 hM hS.o.1 (ob_Φ hS.o.2) rfl gL_line_X5_line rfl rfl rfl ⟨rfl, by decide +kernel, by decide +kernel, Eq.trans (b := some 2) (by decide +kernel) rfl⟩ ⟨Nat.le_of_ble_eq_true rfl, Nat.le_of_ble_eq_true rfl⟩ ⟨Nat.le_of_ble_eq_true rfl, Nat.le_of_ble_eq_true rfl⟩ (Nat.le_of_ble_eq_true rfl) rfl dL_line_5 [] ⟨0, 10, 13, 28⟩ [⟨0, 10, 17, 13⟩] (htab9.trans rfl) (fun _ h9 => absurd h9 List.not_mem_nil) (by decide) (by decide) (by decide +kernel) (by decide +kernel) (fun q9 => ?_)
  refine v_astore [(4, .ref q9), (0, .ref (G 0)), (1, .int p0), (2, .int p1), (3, .ref (G 788))] dL_line_13 (by decide) rfl ?_
  refine v_iconst (nI 1) dL_line_15 (by decide +kernel) ?_
  refine v_wide 1 6 (by decide) (by decide) ?_
  refine v_iret rfl dL_line_16 ⟨σ', rfl, ⟨rfl, rfl⟩⟩

set_option maxHeartbeats 4000000 in
set_option maxRecDepth 100000 in
theorem w_line_2 (lu : Launch) (Dg : va_G) (E : Nat → ClassId) (N : Nat) (G : Nat → Nat) (shp : Nat → (Nat → Int32) → va_E) (σ : Nat → Nat → Int32) (hS : StoodS E G shp N) (hN : 788 < N) (hO : shp 788 = LoS E 1) {p0 : Int32} {p1 : Int32} {σ' : Nat → Nat → Int32} (hM : Thr2 lu yX5_line wsX5_line { frames := 7, cells := 1, slots := 6, locals := 161 } Dg E N G (φ shp σ) (φ shp σ') [.ref (G 0), .int p0, .int p1] "java/lang/IllegalArgumentException") : CW lu yL_line wsL_line { frames := 8, cells := 1, slots := 6, locals := 183 } Dg E N G shp σ [.ref (G 0), .int p0, .int p1, .ref (G 788)] (fun v τ => v = some (.int (nI 2)) ∧ τ = σ') := by
  refine CW.of (cc := cL_line) (maxL := 5) (ret := (some .int)) (by decide) rfl (Nat.le_of_ble_eq_true rfl) ?_
  intro p_ e_ s_ m_ args_ below_ meth_ c_ hX9 hC9 htab9
  refine v_eq (pc' := 0) (st' := []) rfl rfl ?_
  refine v_loc [0, 1, 2, 3] [(0, .ref (G 0)), (1, .int p0), (2, .int p1), (3, .ref (G 788))] rfl ?_
  refine v_aload_n 3 dL_line_0 rfl rfl ?_
  refine v_iconst (nI 0) dL_line_1 (by decide +kernel) ?_
  refine v_aload_n 0 dL_line_2 rfl rfl ?_
  refine v_iload_n 1 dL_line_3 rfl rfl ?_
  refine v_iload_n 2 dL_line_4 rfl rfl ?_
  refine v_catchV (As := [.int p0, .int p1]) (rest := [.int (nI 0), .ref (G 788)]) (ci := 5) (C := RX5) (T := TX5) (NF := 6) hX9 hM hS.o.1 (ob_Φ hS.o.2) rfl gL_line_X5_line rfl rfl rfl ⟨rfl, by decide +kernel, by decide +kernel, Eq.trans (b := some 2) (by decide +kernel) rfl⟩ ⟨Nat.le_of_ble_eq_true rfl, Nat.le_of_ble_eq_true rfl⟩ ⟨Nat.le_of_ble_eq_true rfl, Nat.le_of_ble_eq_true rfl⟩ (Nat.le_of_ble_eq_true rfl) rfl dL_line_5 [⟨0, 10, 13, 28⟩] ⟨0, 10, 17, 13⟩ [] (htab9.trans rfl) (fun z9 h9 => by rw [List.mem_singleton] at h9; subst h9; exact Or.inr ⟨by decide, "java/lang/IndexOutOfBoundsException", by decide +kernel, hC9.1⟩) (by decide) (by decide) (by decide +kernel) (by decide +kernel) (fun q9 => ?_)
  refine v_astore [(4, .ref q9), (0, .ref (G 0)), (1, .int p0), (2, .int p1), (3, .ref (G 788))] dL_line_17 (by decide) rfl ?_
  refine v_iconst (nI 2) dL_line_19 (by decide +kernel) ?_
  refine v_wide 1 6 (by decide) (by decide) ?_
  refine v_iret rfl dL_line_20 ⟨σ', rfl, ⟨rfl, rfl⟩⟩

set_option maxHeartbeats 4000000 in
set_option maxRecDepth 100000 in
theorem w_at_0 (lu : Launch) (Dg : va_G) (E : Nat → ClassId) (N : Nat) (G : Nat → Nat) (shp : Nat → (Nat → Int32) → va_E) (σ : Nat → Nat → Int32) (hS : StoodS E G shp N) (hN : 788 < N) (hO : shp 788 = LoS E 1) {p0 : Int32} {p1 : Int32} {P : Int32 → (Nat → Nat → Int32) → Prop} (hM : CX lu yX5_at wsX5_at { frames := 6, cells := 0, slots := 0, locals := 141 } Dg E N G shp σ [.ref (G 0), .int p0, .int p1] (fun v τ => ∃ x, v = some (.int x) ∧ P x τ)) : CW lu yL_at wsL_at { frames := 8, cells := 1, slots := 6, locals := 183 } Dg E N G shp σ [.ref (G 0), .int p0, .int p1, .ref (G 788)] (fun v τ => ∃ x τ0, v = some (.int (nI 0)) ∧ τ = st2 τ0 788 0 x ∧ P x τ0) := by
  refine CW.of (cc := cL_at) (maxL := 5) (ret := (some .int)) (by decide) rfl (Nat.le_of_ble_eq_true rfl) ?_
  intro p_ e_ s_ m_ args_ below_ meth_ c_ hX9 hC9 htab9
  refine v_eq (pc' := 0) (st' := []) rfl rfl ?_
  refine v_loc [0, 1, 2, 3] [(0, .ref (G 0)), (1, .int p0), (2, .int p1), (3, .ref (G 788))] rfl ?_
  refine v_aload_n 3 dL_at_0 rfl rfl ?_
  refine v_iconst (nI 0) dL_at_1 (by decide +kernel) ?_
  refine v_aload_n 0 dL_at_2 rfl rfl ?_
  refine v_iload_n 1 dL_at_3 rfl rfl ?_
  refine v_iload_n 2 dL_at_4 rfl rfl ?_
  refine u_callVx [.int p0, .int p1] [.int (nI 0), .ref (G 788)] 2 (hM) (ci := 5) (C := RX5) (T := TX5) (NF := 6) hS.o.1 hS.o.2 rfl gL_at_X5_at rfl rfl rfl (by decide +kernel) rfl ⟨Nat.le_of_ble_eq_true rfl, Nat.le_of_ble_eq_true rfl⟩ ⟨Nat.le_of_ble_eq_true rfl, Nat.le_of_ble_eq_true rfl⟩ (Nat.le_of_ble_eq_true rfl) rfl dL_at_5 (fun v9 τ9 hp9 => ?_)
  obtain ⟨x9, rfl, hP9⟩ := hp9
  refine v_st (st' := [.int x9, .int (nI 0), .ref (G 788)]) rfl ?_
  refine v_i2l dL_at_8 ?_
  refine u_last (v := x9) 0 hN hO rfl (by omega) (by decide) dL_at_9 ?_
  generalize hσ1 : st2 τ9 788 0 (x9) = σ1
  refine v_goto 21 dL_at_10 rfl ?_
  refine v_iconst (nI 0) dL_at_21 (by decide +kernel) ?_
  refine v_wide 1 6 (by decide) (by decide) ?_
  refine v_iret rfl dL_at_22 ⟨σ1, rfl, ⟨x9, τ9, rfl, hσ1.symm, hP9⟩⟩

set_option maxHeartbeats 4000000 in
set_option maxRecDepth 100000 in
theorem w_at_1 (lu : Launch) (Dg : va_G) (E : Nat → ClassId) (N : Nat) (G : Nat → Nat) (shp : Nat → (Nat → Int32) → va_E) (σ : Nat → Nat → Int32) (hS : StoodS E G shp N) (hN : 788 < N) (hO : shp 788 = LoS E 1) {p0 : Int32} {p1 : Int32} {σ' : Nat → Nat → Int32} (hM : Thr2 lu yX5_at wsX5_at { frames := 7, cells := 1, slots := 6, locals := 161 } Dg E N G (φ shp σ) (φ shp σ') [.ref (G 0), .int p0, .int p1] "java/lang/IndexOutOfBoundsException") : CW lu yL_at wsL_at { frames := 8, cells := 1, slots := 6, locals := 183 } Dg E N G shp σ [.ref (G 0), .int p0, .int p1, .ref (G 788)] (fun v τ => v = some (.int (nI 1)) ∧ τ = σ') := by
  refine CW.of (cc := cL_at) (maxL := 5) (ret := (some .int)) (by decide) rfl (Nat.le_of_ble_eq_true rfl) ?_
  intro p_ e_ s_ m_ args_ below_ meth_ c_ hX9 hC9 htab9
  refine v_eq (pc' := 0) (st' := []) rfl rfl ?_
  refine v_loc [0, 1, 2, 3] [(0, .ref (G 0)), (1, .int p0), (2, .int p1), (3, .ref (G 788))] rfl ?_
  refine v_aload_n 3 dL_at_0 rfl rfl ?_
  refine v_iconst (nI 0) dL_at_1 (by decide +kernel) ?_
  refine v_aload_n 0 dL_at_2 rfl rfl ?_
  refine v_iload_n 1 dL_at_3 rfl rfl ?_
  refine v_iload_n 2 dL_at_4 rfl rfl ?_
  refine v_catchV (As := [.int p0, .int p1]) (rest := [.int (nI 0), .ref (G 788)]) (ci := 5) (C := RX5) (T := TX5) (NF := 6) hX9 hM hS.o.1 (ob_Φ hS.o.2) rfl gL_at_X5_at rfl rfl rfl ⟨rfl, by decide +kernel, by decide +kernel, Eq.trans (b := some 2) (by decide +kernel) rfl⟩ ⟨Nat.le_of_ble_eq_true rfl, Nat.le_of_ble_eq_true rfl⟩ ⟨Nat.le_of_ble_eq_true rfl, Nat.le_of_ble_eq_true rfl⟩ (Nat.le_of_ble_eq_true rfl) rfl dL_at_5 [] ⟨0, 10, 13, 28⟩ [⟨0, 10, 17, 13⟩] (htab9.trans rfl) (fun _ h9 => absurd h9 List.not_mem_nil) (by decide) (by decide) (by decide +kernel) (by decide +kernel) (fun q9 => ?_)
  refine v_astore [(4, .ref q9), (0, .ref (G 0)), (1, .int p0), (2, .int p1), (3, .ref (G 788))] dL_at_13 (by decide) rfl ?_
  refine v_iconst (nI 1) dL_at_15 (by decide +kernel) ?_
  refine v_wide 1 6 (by decide) (by decide) ?_
  refine v_iret rfl dL_at_16 ⟨σ', rfl, ⟨rfl, rfl⟩⟩

set_option maxHeartbeats 4000000 in
set_option maxRecDepth 100000 in
theorem w_at_2 (lu : Launch) (Dg : va_G) (E : Nat → ClassId) (N : Nat) (G : Nat → Nat) (shp : Nat → (Nat → Int32) → va_E) (σ : Nat → Nat → Int32) (hS : StoodS E G shp N) (hN : 788 < N) (hO : shp 788 = LoS E 1) {p0 : Int32} {p1 : Int32} {σ' : Nat → Nat → Int32} (hM : Thr2 lu yX5_at wsX5_at { frames := 7, cells := 1, slots := 6, locals := 161 } Dg E N G (φ shp σ) (φ shp σ') [.ref (G 0), .int p0, .int p1] "java/lang/IllegalArgumentException") : CW lu yL_at wsL_at { frames := 8, cells := 1, slots := 6, locals := 183 } Dg E N G shp σ [.ref (G 0), .int p0, .int p1, .ref (G 788)] (fun v τ => v = some (.int (nI 2)) ∧ τ = σ') := by
  refine CW.of (cc := cL_at) (maxL := 5) (ret := (some .int)) (by decide) rfl (Nat.le_of_ble_eq_true rfl) ?_
  intro p_ e_ s_ m_ args_ below_ meth_ c_ hX9 hC9 htab9
  refine v_eq (pc' := 0) (st' := []) rfl rfl ?_
  refine v_loc [0, 1, 2, 3] [(0, .ref (G 0)), (1, .int p0), (2, .int p1), (3, .ref (G 788))] rfl ?_
  refine v_aload_n 3 dL_at_0 rfl rfl ?_
  refine v_iconst (nI 0) dL_at_1 (by decide +kernel) ?_
  refine v_aload_n 0 dL_at_2 rfl rfl ?_
  refine v_iload_n 1 dL_at_3 rfl rfl ?_
  refine v_iload_n 2 dL_at_4 rfl rfl ?_
  refine v_catchV (As := [.int p0, .int p1]) (rest := [.int (nI 0), .ref (G 788)]) (ci := 5) (C := RX5) (T := TX5) (NF := 6) hX9 hM hS.o.1 (ob_Φ hS.o.2) rfl gL_at_X5_at rfl rfl rfl ⟨rfl, by decide +kernel, by decide +kernel, Eq.trans (b := some 2) (by decide +kernel) rfl⟩ ⟨Nat.le_of_ble_eq_true rfl, Nat.le_of_ble_eq_true rfl⟩ ⟨Nat.le_of_ble_eq_true rfl, Nat.le_of_ble_eq_true rfl⟩ (Nat.le_of_ble_eq_true rfl) rfl dL_at_5 [⟨0, 10, 13, 28⟩] ⟨0, 10, 17, 13⟩ [] (htab9.trans rfl) (fun z9 h9 => by rw [List.mem_singleton] at h9; subst h9; exact Or.inr ⟨by decide, "java/lang/IndexOutOfBoundsException", by decide +kernel, hC9.1⟩) (by decide) (by decide) (by decide +kernel) (by decide +kernel) (fun q9 => ?_)
  refine v_astore [(4, .ref q9), (0, .ref (G 0)), (1, .int p0), (2, .int p1), (3, .ref (G 788))] dL_at_17 (by decide) rfl ?_
  refine v_iconst (nI 2) dL_at_19 (by decide +kernel) ?_
  refine v_wide 1 6 (by decide) (by decide) ?_
  refine v_iret rfl dL_at_20 ⟨σ', rfl, ⟨rfl, rfl⟩⟩

set_option maxHeartbeats 4000000 in
set_option maxRecDepth 100000 in
theorem w_person_0 (lu : Launch) (Dg : va_G) (E : Nat → ClassId) (N : Nat) (G : Nat → Nat) (shp : Nat → (Nat → Int32) → va_E) (σ : Nat → Nat → Int32) (hS : StoodS E G shp N) (hN : 788 < N) (hO : shp 788 = LoS E 1) {p0 : Int32} {p1 : Int32} {P : Int32 → (Nat → Nat → Int32) → Prop} (hM : CX lu yX5_person wsX5_person { frames := 6, cells := 0, slots := 0, locals := 141 } Dg E N G shp σ [.ref (G 0), .int p0, .int p1] (fun v τ => ∃ x, v = some (.int x) ∧ P x τ)) : CW lu yL_person wsL_person { frames := 8, cells := 1, slots := 6, locals := 183 } Dg E N G shp σ [.ref (G 0), .int p0, .int p1, .ref (G 788)] (fun v τ => ∃ x τ0, v = some (.int (nI 0)) ∧ τ = st2 τ0 788 0 x ∧ P x τ0) := by
  refine CW.of (cc := cL_person) (maxL := 5) (ret := (some .int)) (by decide) rfl (Nat.le_of_ble_eq_true rfl) ?_
  intro p_ e_ s_ m_ args_ below_ meth_ c_ hX9 hC9 htab9
  refine v_eq (pc' := 0) (st' := []) rfl rfl ?_
  refine v_loc [0, 1, 2, 3] [(0, .ref (G 0)), (1, .int p0), (2, .int p1), (3, .ref (G 788))] rfl ?_
  refine v_aload_n 3 dL_person_0 rfl rfl ?_
  refine v_iconst (nI 0) dL_person_1 (by decide +kernel) ?_
  refine v_aload_n 0 dL_person_2 rfl rfl ?_
  refine v_iload_n 1 dL_person_3 rfl rfl ?_
  refine v_iload_n 2 dL_person_4 rfl rfl ?_
  refine u_callVx [.int p0, .int p1] [.int (nI 0), .ref (G 788)] 2 (hM) (ci := 5) (C := RX5) (T := TX5) (NF := 6) hS.o.1 hS.o.2 rfl gL_person_X5_person rfl rfl rfl (by decide +kernel) rfl ⟨Nat.le_of_ble_eq_true rfl, Nat.le_of_ble_eq_true rfl⟩ ⟨Nat.le_of_ble_eq_true rfl, Nat.le_of_ble_eq_true rfl⟩ (Nat.le_of_ble_eq_true rfl) rfl dL_person_5 (fun v9 τ9 hp9 => ?_)
  obtain ⟨x9, rfl, hP9⟩ := hp9
  refine v_st (st' := [.int x9, .int (nI 0), .ref (G 788)]) rfl ?_
  refine v_i2l dL_person_8 ?_
  refine u_last (v := x9) 0 hN hO rfl (by omega) (by decide) dL_person_9 ?_
  generalize hσ1 : st2 τ9 788 0 (x9) = σ1
  refine v_goto 21 dL_person_10 rfl ?_
  refine v_iconst (nI 0) dL_person_21 (by decide +kernel) ?_
  refine v_wide 1 6 (by decide) (by decide) ?_
  refine v_iret rfl dL_person_22 ⟨σ1, rfl, ⟨x9, τ9, rfl, hσ1.symm, hP9⟩⟩

set_option maxHeartbeats 4000000 in
set_option maxRecDepth 100000 in
theorem w_person_1 (lu : Launch) (Dg : va_G) (E : Nat → ClassId) (N : Nat) (G : Nat → Nat) (shp : Nat → (Nat → Int32) → va_E) (σ : Nat → Nat → Int32) (hS : StoodS E G shp N) (hN : 788 < N) (hO : shp 788 = LoS E 1) {p0 : Int32} {p1 : Int32} {σ' : Nat → Nat → Int32} (hM : Thr2 lu yX5_person wsX5_person { frames := 7, cells := 1, slots := 6, locals := 161 } Dg E N G (φ shp σ) (φ shp σ') [.ref (G 0), .int p0, .int p1] "java/lang/IndexOutOfBoundsException") : CW lu yL_person wsL_person { frames := 8, cells := 1, slots := 6, locals := 183 } Dg E N G shp σ [.ref (G 0), .int p0, .int p1, .ref (G 788)] (fun v τ => v = some (.int (nI 1)) ∧ τ = σ') := by
  refine CW.of (cc := cL_person) (maxL := 5) (ret := (some .int)) (by decide) rfl (Nat.le_of_ble_eq_true rfl) ?_
  intro p_ e_ s_ m_ args_ below_ meth_ c_ hX9 hC9 htab9
  refine v_eq (pc' := 0) (st' := []) rfl rfl ?_
  refine v_loc [0, 1, 2, 3] [(0, .ref (G 0)), (1, .int p0), (2, .int p1), (3, .ref (G 788))] rfl ?_
  refine v_aload_n 3 dL_person_0 rfl rfl ?_
  refine v_iconst (nI 0) dL_person_1 (by decide +kernel) ?_
  refine v_aload_n 0 dL_person_2 rfl rfl ?_
  refine v_iload_n 1 dL_person_3 rfl rfl ?_
  refine v_iload_n 2 dL_person_4 rfl rfl ?_
  refine v_catchV (As := [.int p0, .int p1]) (rest := [.int (nI 0), .ref (G 788)]) (ci := 5) (C := RX5) (T := TX5) (NF := 6) hX9 hM hS.o.1 (ob_Φ hS.o.2) rfl gL_person_X5_person rfl rfl rfl ⟨rfl, by decide +kernel, by decide +kernel, Eq.trans (b := some 2) (by decide +kernel) rfl⟩ ⟨Nat.le_of_ble_eq_true rfl, Nat.le_of_ble_eq_true rfl⟩ ⟨Nat.le_of_ble_eq_true rfl, Nat.le_of_ble_eq_true rfl⟩ (Nat.le_of_ble_eq_true rfl) rfl dL_person_5 [] ⟨0, 10, 13, 28⟩ [⟨0, 10, 17, 13⟩] (htab9.trans rfl) (fun _ h9 => absurd h9 List.not_mem_nil) (by decide) (by decide) (by decide +kernel) (by decide +kernel) (fun q9 => ?_)
  refine v_astore [(4, .ref q9), (0, .ref (G 0)), (1, .int p0), (2, .int p1), (3, .ref (G 788))] dL_person_13 (by decide) rfl ?_
  refine v_iconst (nI 1) dL_person_15 (by decide +kernel) ?_
  refine v_wide 1 6 (by decide) (by decide) ?_
  refine v_iret rfl dL_person_16 ⟨σ', rfl, ⟨rfl, rfl⟩⟩

set_option maxHeartbeats 4000000 in
set_option maxRecDepth 100000 in
theorem w_person_2 (lu : Launch) (Dg : va_G) (E : Nat → ClassId) (N : Nat) (G : Nat → Nat) (shp : Nat → (Nat → Int32) → va_E) (σ : Nat → Nat → Int32) (hS : StoodS E G shp N) (hN : 788 < N) (hO : shp 788 = LoS E 1) {p0 : Int32} {p1 : Int32} {σ' : Nat → Nat → Int32} (hM : Thr2 lu yX5_person wsX5_person { frames := 7, cells := 1, slots := 6, locals := 161 } Dg E N G (φ shp σ) (φ shp σ') [.ref (G 0), .int p0, .int p1] "java/lang/IllegalArgumentException") : CW lu yL_person wsL_person { frames := 8, cells := 1, slots := 6, locals := 183 } Dg E N G shp σ [.ref (G 0), .int p0, .int p1, .ref (G 788)] (fun v τ => v = some (.int (nI 2)) ∧ τ = σ') := by
  refine CW.of (cc := cL_person) (maxL := 5) (ret := (some .int)) (by decide) rfl (Nat.le_of_ble_eq_true rfl) ?_
  intro p_ e_ s_ m_ args_ below_ meth_ c_ hX9 hC9 htab9
  refine v_eq (pc' := 0) (st' := []) rfl rfl ?_
  refine v_loc [0, 1, 2, 3] [(0, .ref (G 0)), (1, .int p0), (2, .int p1), (3, .ref (G 788))] rfl ?_
  refine v_aload_n 3 dL_person_0 rfl rfl ?_
  refine v_iconst (nI 0) dL_person_1 (by decide +kernel) ?_
  refine v_aload_n 0 dL_person_2 rfl rfl ?_
  refine v_iload_n 1 dL_person_3 rfl rfl ?_
  refine v_iload_n 2 dL_person_4 rfl rfl ?_
  refine v_catchV (As := [.int p0, .int p1]) (rest := [.int (nI 0), .ref (G 788)]) (ci := 5) (C := RX5) (T := TX5) (NF := 6) hX9 hM hS.o.1 (ob_Φ hS.o.2) rfl gL_person_X5_person rfl rfl rfl ⟨rfl, by decide +kernel, by decide +kernel, Eq.trans (b := some 2) (by decide +kernel) rfl⟩ ⟨Nat.le_of_ble_eq_true rfl, Nat.le_of_ble_eq_true rfl⟩ ⟨Nat.le_of_ble_eq_true rfl, Nat.le_of_ble_eq_true rfl⟩ (Nat.le_of_ble_eq_true rfl) rfl dL_person_5 [⟨0, 10, 13, 28⟩] ⟨0, 10, 17, 13⟩ [] (htab9.trans rfl) (fun z9 h9 => by rw [List.mem_singleton] at h9; subst h9; exact Or.inr ⟨by decide, "java/lang/IndexOutOfBoundsException", by decide +kernel, hC9.1⟩) (by decide) (by decide) (by decide +kernel) (by decide +kernel) (fun q9 => ?_)
  refine v_astore [(4, .ref q9), (0, .ref (G 0)), (1, .int p0), (2, .int p1), (3, .ref (G 788))] dL_person_17 (by decide) rfl ?_
  refine v_iconst (nI 2) dL_person_19 (by decide +kernel) ?_
  refine v_wide 1 6 (by decide) (by decide) ?_
  refine v_iret rfl dL_person_20 ⟨σ', rfl, ⟨rfl, rfl⟩⟩

set_option maxHeartbeats 4000000 in
set_option maxRecDepth 100000 in
theorem w_setting_0 (lu : Launch) (Dg : va_G) (E : Nat → ClassId) (N : Nat) (G : Nat → Nat) (shp : Nat → (Nat → Int32) → va_E) (σ : Nat → Nat → Int32) (hS : StoodS E G shp N) (hN : 788 < N) (hO : shp 788 = LoS E 1) {p0 : Int32} {P : Int32 → (Nat → Nat → Int32) → Prop} (hM : CX lu yX5_setting wsX5_setting { frames := 6, cells := 0, slots := 0, locals := 140 } Dg E N G shp σ [.ref (G 0), .int p0] (fun v τ => ∃ x, v = some (.int x) ∧ P x τ)) : CW lu yL_setting wsL_setting { frames := 8, cells := 1, slots := 6, locals := 181 } Dg E N G shp σ [.ref (G 0), .int p0, .ref (G 788)] (fun v τ => ∃ x τ0, v = some (.int (nI 0)) ∧ τ = st2 τ0 788 0 x ∧ P x τ0) := by
  refine CW.of (cc := cL_setting) (maxL := 4) (ret := (some .int)) (by decide) rfl (Nat.le_of_ble_eq_true rfl) ?_
  intro p_ e_ s_ m_ args_ below_ meth_ c_ hX9 hC9 htab9
  refine v_eq (pc' := 0) (st' := []) rfl rfl ?_
  refine v_loc [0, 1, 2] [(0, .ref (G 0)), (1, .int p0), (2, .ref (G 788))] rfl ?_
  refine v_aload_n 2 dL_setting_0 rfl rfl ?_
  refine v_iconst (nI 0) dL_setting_1 (by decide +kernel) ?_
  refine v_aload_n 0 dL_setting_2 rfl rfl ?_
  refine v_iload_n 1 dL_setting_3 rfl rfl ?_
  refine u_callVx [.int p0] [.int (nI 0), .ref (G 788)] 1 (hM) (ci := 5) (C := RX5) (T := TX5) (NF := 6) hS.o.1 hS.o.2 rfl gL_setting_X5_setting rfl rfl rfl (by decide +kernel) rfl ⟨Nat.le_of_ble_eq_true rfl, Nat.le_of_ble_eq_true rfl⟩ ⟨Nat.le_of_ble_eq_true rfl, Nat.le_of_ble_eq_true rfl⟩ (Nat.le_of_ble_eq_true rfl) rfl dL_setting_4 (fun v9 τ9 hp9 => ?_)
  obtain ⟨x9, rfl, hP9⟩ := hp9
  refine v_st (st' := [.int x9, .int (nI 0), .ref (G 788)]) rfl ?_
  refine v_i2l dL_setting_7 ?_
  refine u_last (v := x9) 0 hN hO rfl (by omega) (by decide) dL_setting_8 ?_
  generalize hσ1 : st2 τ9 788 0 (x9) = σ1
  refine v_goto 15 dL_setting_9 rfl ?_
  refine v_iconst (nI 0) dL_setting_15 (by decide +kernel) ?_
  refine v_wide 1 6 (by decide) (by decide) ?_
  refine v_iret rfl dL_setting_16 ⟨σ1, rfl, ⟨x9, τ9, rfl, hσ1.symm, hP9⟩⟩

set_option maxHeartbeats 4000000 in
set_option maxRecDepth 100000 in
theorem w_setting_1 (lu : Launch) (Dg : va_G) (E : Nat → ClassId) (N : Nat) (G : Nat → Nat) (shp : Nat → (Nat → Int32) → va_E) (σ : Nat → Nat → Int32) (hS : StoodS E G shp N) (hN : 788 < N) (hO : shp 788 = LoS E 1) {p0 : Int32} {σ' : Nat → Nat → Int32} (hM : Thr2 lu yX5_setting wsX5_setting { frames := 7, cells := 1, slots := 6, locals := 160 } Dg E N G (φ shp σ) (φ shp σ') [.ref (G 0), .int p0] "java/lang/IllegalArgumentException") : CW lu yL_setting wsL_setting { frames := 8, cells := 1, slots := 6, locals := 181 } Dg E N G shp σ [.ref (G 0), .int p0, .ref (G 788)] (fun v τ => v = some (.int (nI 1)) ∧ τ = σ') := by
  refine CW.of (cc := cL_setting) (maxL := 4) (ret := (some .int)) (by decide) rfl (Nat.le_of_ble_eq_true rfl) ?_
  intro p_ e_ s_ m_ args_ below_ meth_ c_ hX9 hC9 htab9
  refine v_eq (pc' := 0) (st' := []) rfl rfl ?_
  refine v_loc [0, 1, 2] [(0, .ref (G 0)), (1, .int p0), (2, .ref (G 788))] rfl ?_
  refine v_aload_n 2 dL_setting_0 rfl rfl ?_
  refine v_iconst (nI 0) dL_setting_1 (by decide +kernel) ?_
  refine v_aload_n 0 dL_setting_2 rfl rfl ?_
  refine v_iload_n 1 dL_setting_3 rfl rfl ?_
  refine v_catchV (As := [.int p0]) (rest := [.int (nI 0), .ref (G 788)]) (ci := 5) (C := RX5) (T := TX5) (NF := 6) hX9 hM hS.o.1 (ob_Φ hS.o.2) rfl gL_setting_X5_setting rfl rfl rfl ⟨rfl, by decide +kernel, by decide +kernel, Eq.trans (b := some 1) (by decide +kernel) rfl⟩ ⟨Nat.le_of_ble_eq_true rfl, Nat.le_of_ble_eq_true rfl⟩ ⟨Nat.le_of_ble_eq_true rfl, Nat.le_of_ble_eq_true rfl⟩ (Nat.le_of_ble_eq_true rfl) rfl dL_setting_4 [] ⟨0, 9, 12, 13⟩ [] (htab9.trans rfl) (fun _ h9 => absurd h9 List.not_mem_nil) (by decide) (by decide) (by decide +kernel) (by decide +kernel) (fun q9 => ?_)
  refine v_astore_n [(3, .ref q9), (0, .ref (G 0)), (1, .int p0), (2, .ref (G 788))] dL_setting_12 rfl (by decide) rfl ?_
  refine v_iconst (nI 1) dL_setting_13 (by decide +kernel) ?_
  refine v_wide 1 6 (by decide) (by decide) ?_
  refine v_iret rfl dL_setting_14 ⟨σ', rfl, ⟨rfl, rfl⟩⟩

set_option maxHeartbeats 4000000 in
set_option maxRecDepth 100000 in
theorem w_open_0 (lu : Launch) (Dg : va_G) (E : Nat → ClassId) (N : Nat) (G : Nat → Nat) (shp : Nat → (Nat → Int32) → va_E) (σ : Nat → Nat → Int32) (hS : StoodS E G shp N) (hN : 788 < N) (hO : shp 788 = LoS E 1) {p0 : Int32} {P : Int32 → (Nat → Nat → Int32) → Prop} (hM : CX lu yX5_open wsX5_open { frames := 5, cells := 0, slots := 0, locals := 120 } Dg E N G shp σ [.ref (G 0), .int p0] (fun v τ => ∃ x, v = some (.int x) ∧ P x τ)) : CW lu yL_open wsL_open { frames := 7, cells := 1, slots := 6, locals := 161 } Dg E N G shp σ [.ref (G 0), .int p0, .ref (G 788)] (fun v τ => ∃ x τ0, v = some (.int (nI 0)) ∧ τ = st2 τ0 788 0 x ∧ P x τ0) := by
  refine CW.of (cc := cL_open) (maxL := 4) (ret := (some .int)) (by decide) rfl (Nat.le_of_ble_eq_true rfl) ?_
  intro p_ e_ s_ m_ args_ below_ meth_ c_ hX9 hC9 htab9
  refine v_eq (pc' := 0) (st' := []) rfl rfl ?_
  refine v_loc [0, 1, 2] [(0, .ref (G 0)), (1, .int p0), (2, .ref (G 788))] rfl ?_
  refine v_aload_n 2 dL_open_0 rfl rfl ?_
  refine v_iconst (nI 0) dL_open_1 (by decide +kernel) ?_
  refine v_aload_n 0 dL_open_2 rfl rfl ?_
  refine v_iload_n 1 dL_open_3 rfl rfl ?_
  refine u_callVx [.int p0] [.int (nI 0), .ref (G 788)] 1 (hM) (ci := 5) (C := RX5) (T := TX5) (NF := 6) hS.o.1 hS.o.2 rfl gL_open_X5_open rfl rfl rfl (by decide +kernel) rfl ⟨Nat.le_of_ble_eq_true rfl, Nat.le_of_ble_eq_true rfl⟩ ⟨Nat.le_of_ble_eq_true rfl, Nat.le_of_ble_eq_true rfl⟩ (Nat.le_of_ble_eq_true rfl) rfl dL_open_4 (fun v9 τ9 hp9 => ?_)
  obtain ⟨x9, rfl, hP9⟩ := hp9
  refine v_st (st' := [.int x9, .int (nI 0), .ref (G 788)]) rfl ?_
  refine v_i2l dL_open_7 ?_
  refine u_last (v := x9) 0 hN hO rfl (by omega) (by decide) dL_open_8 ?_
  generalize hσ1 : st2 τ9 788 0 (x9) = σ1
  refine v_goto 18 dL_open_9 rfl ?_
  refine v_iconst (nI 0) dL_open_18 (by decide +kernel) ?_
  refine v_wide 1 6 (by decide) (by decide) ?_
  refine v_iret rfl dL_open_19 ⟨σ1, rfl, ⟨x9, τ9, rfl, hσ1.symm, hP9⟩⟩

set_option maxHeartbeats 4000000 in
set_option maxRecDepth 100000 in
theorem w_open_1 (lu : Launch) (Dg : va_G) (E : Nat → ClassId) (N : Nat) (G : Nat → Nat) (shp : Nat → (Nat → Int32) → va_E) (σ : Nat → Nat → Int32) (hS : StoodS E G shp N) (hN : 788 < N) (hO : shp 788 = LoS E 1) {p0 : Int32} {σ' : Nat → Nat → Int32} (hM : Thr2 lu yX5_open wsX5_open { frames := 6, cells := 1, slots := 6, locals := 140 } Dg E N G (φ shp σ) (φ shp σ') [.ref (G 0), .int p0] "java/lang/IllegalArgumentException") : CW lu yL_open wsL_open { frames := 7, cells := 1, slots := 6, locals := 161 } Dg E N G shp σ [.ref (G 0), .int p0, .ref (G 788)] (fun v τ => v = some (.int (nI 1)) ∧ τ = σ') := by
  refine CW.of (cc := cL_open) (maxL := 4) (ret := (some .int)) (by decide) rfl (Nat.le_of_ble_eq_true rfl) ?_
  intro p_ e_ s_ m_ args_ below_ meth_ c_ hX9 hC9 htab9
  refine v_eq (pc' := 0) (st' := []) rfl rfl ?_
  refine v_loc [0, 1, 2] [(0, .ref (G 0)), (1, .int p0), (2, .ref (G 788))] rfl ?_
  refine v_aload_n 2 dL_open_0 rfl rfl ?_
  refine v_iconst (nI 0) dL_open_1 (by decide +kernel) ?_
  refine v_aload_n 0 dL_open_2 rfl rfl ?_
  refine v_iload_n 1 dL_open_3 rfl rfl ?_
  refine v_catchV (As := [.int p0]) (rest := [.int (nI 0), .ref (G 788)]) (ci := 5) (C := RX5) (T := TX5) (NF := 6) hX9 hM hS.o.1 (ob_Φ hS.o.2) rfl gL_open_X5_open rfl rfl rfl ⟨rfl, by decide +kernel, by decide +kernel, Eq.trans (b := some 1) (by decide +kernel) rfl⟩ ⟨Nat.le_of_ble_eq_true rfl, Nat.le_of_ble_eq_true rfl⟩ ⟨Nat.le_of_ble_eq_true rfl, Nat.le_of_ble_eq_true rfl⟩ (Nat.le_of_ble_eq_true rfl) rfl dL_open_4 [] ⟨0, 9, 12, 13⟩ [⟨0, 9, 15, 15⟩] (htab9.trans rfl) (fun _ h9 => absurd h9 List.not_mem_nil) (by decide) (by decide) (by decide +kernel) (by decide +kernel) (fun q9 => ?_)
  refine v_astore_n [(3, .ref q9), (0, .ref (G 0)), (1, .int p0), (2, .ref (G 788))] dL_open_12 rfl (by decide) rfl ?_
  refine v_iconst (nI 1) dL_open_13 (by decide +kernel) ?_
  refine v_wide 1 6 (by decide) (by decide) ?_
  refine v_iret rfl dL_open_14 ⟨σ', rfl, ⟨rfl, rfl⟩⟩

set_option maxHeartbeats 4000000 in
set_option maxRecDepth 100000 in
theorem w_open_2 (lu : Launch) (Dg : va_G) (E : Nat → ClassId) (N : Nat) (G : Nat → Nat) (shp : Nat → (Nat → Int32) → va_E) (σ : Nat → Nat → Int32) (hS : StoodS E G shp N) (hN : 788 < N) (hO : shp 788 = LoS E 1) {p0 : Int32} {σ' : Nat → Nat → Int32} (hM : Thr2 lu yX5_open wsX5_open { frames := 6, cells := 1, slots := 6, locals := 140 } Dg E N G (φ shp σ) (φ shp σ') [.ref (G 0), .int p0] "java/lang/IllegalStateException") : CW lu yL_open wsL_open { frames := 7, cells := 1, slots := 6, locals := 161 } Dg E N G shp σ [.ref (G 0), .int p0, .ref (G 788)] (fun v τ => v = some (.int (nI 2)) ∧ τ = σ') := by
  refine CW.of (cc := cL_open) (maxL := 4) (ret := (some .int)) (by decide) rfl (Nat.le_of_ble_eq_true rfl) ?_
  intro p_ e_ s_ m_ args_ below_ meth_ c_ hX9 hC9 htab9
  refine v_eq (pc' := 0) (st' := []) rfl rfl ?_
  refine v_loc [0, 1, 2] [(0, .ref (G 0)), (1, .int p0), (2, .ref (G 788))] rfl ?_
  refine v_aload_n 2 dL_open_0 rfl rfl ?_
  refine v_iconst (nI 0) dL_open_1 (by decide +kernel) ?_
  refine v_aload_n 0 dL_open_2 rfl rfl ?_
  refine v_iload_n 1 dL_open_3 rfl rfl ?_
  refine v_catchV (As := [.int p0]) (rest := [.int (nI 0), .ref (G 788)]) (ci := 5) (C := RX5) (T := TX5) (NF := 6) hX9 hM hS.o.1 (ob_Φ hS.o.2) rfl gL_open_X5_open rfl rfl rfl ⟨rfl, by decide +kernel, by decide +kernel, Eq.trans (b := some 1) (by decide +kernel) rfl⟩ ⟨Nat.le_of_ble_eq_true rfl, Nat.le_of_ble_eq_true rfl⟩ ⟨Nat.le_of_ble_eq_true rfl, Nat.le_of_ble_eq_true rfl⟩ (Nat.le_of_ble_eq_true rfl) rfl dL_open_4 [⟨0, 9, 12, 13⟩] ⟨0, 9, 15, 15⟩ [] (htab9.trans rfl) (fun z9 h9 => by rw [List.mem_singleton] at h9; subst h9; exact Or.inr ⟨by decide, "java/lang/IllegalArgumentException", by decide +kernel, hC9.2.2⟩) (by decide) (by decide) (by decide +kernel) (by decide +kernel) (fun q9 => ?_)
  refine v_astore_n [(3, .ref q9), (0, .ref (G 0)), (1, .int p0), (2, .ref (G 788))] dL_open_15 rfl (by decide) rfl ?_
  refine v_iconst (nI 2) dL_open_16 (by decide +kernel) ?_
  refine v_wide 1 6 (by decide) (by decide) ?_
  refine v_iret rfl dL_open_17 ⟨σ', rfl, ⟨rfl, rfl⟩⟩

set_option maxHeartbeats 4000000 in
set_option maxRecDepth 100000 in
theorem w_come_0 (lu : Launch) (Dg : va_G) (E : Nat → ClassId) (N : Nat) (G : Nat → Nat) (shp : Nat → (Nat → Int32) → va_E) (σ : Nat → Nat → Int32) (hS : StoodS E G shp N) (hN : 788 < N) (hO : shp 788 = LoS E 1) {p0 : Int32} {p1 : Int32} {P : Int32 → (Nat → Nat → Int32) → Prop} (hM : CX lu yX5_come wsX5_come { frames := 6, cells := 0, slots := 0, locals := 141 } Dg E N G shp σ [.ref (G 0), .int p0, .int p1] (fun v τ => ∃ x, v = some (.int x) ∧ P x τ)) : CW lu yL_come wsL_come { frames := 8, cells := 1, slots := 6, locals := 183 } Dg E N G shp σ [.ref (G 0), .int p0, .int p1, .ref (G 788)] (fun v τ => ∃ x τ0, v = some (.int (nI 0)) ∧ τ = st2 τ0 788 0 x ∧ P x τ0) := by
  refine CW.of (cc := cL_come) (maxL := 5) (ret := (some .int)) (by decide) rfl (Nat.le_of_ble_eq_true rfl) ?_
  intro p_ e_ s_ m_ args_ below_ meth_ c_ hX9 hC9 htab9
  refine v_eq (pc' := 0) (st' := []) rfl rfl ?_
  refine v_loc [0, 1, 2, 3] [(0, .ref (G 0)), (1, .int p0), (2, .int p1), (3, .ref (G 788))] rfl ?_
  refine v_aload_n 3 dL_come_0 rfl rfl ?_
  refine v_iconst (nI 0) dL_come_1 (by decide +kernel) ?_
  refine v_aload_n 0 dL_come_2 rfl rfl ?_
  refine v_iload_n 1 dL_come_3 rfl rfl ?_
  refine v_iload_n 2 dL_come_4 rfl rfl ?_
  refine u_callVx [.int p0, .int p1] [.int (nI 0), .ref (G 788)] 2 (hM) (ci := 5) (C := RX5) (T := TX5) (NF := 6) hS.o.1 hS.o.2 rfl gL_come_X5_come rfl rfl rfl (by decide +kernel) rfl ⟨Nat.le_of_ble_eq_true rfl, Nat.le_of_ble_eq_true rfl⟩ ⟨Nat.le_of_ble_eq_true rfl, Nat.le_of_ble_eq_true rfl⟩ (Nat.le_of_ble_eq_true rfl) rfl dL_come_5 (fun v9 τ9 hp9 => ?_)
  obtain ⟨x9, rfl, hP9⟩ := hp9
  refine v_st (st' := [.int x9, .int (nI 0), .ref (G 788)]) rfl ?_
  refine v_i2l dL_come_8 ?_
  refine u_last (v := x9) 0 hN hO rfl (by omega) (by decide) dL_come_9 ?_
  generalize hσ1 : st2 τ9 788 0 (x9) = σ1
  refine v_goto 25 dL_come_10 rfl ?_
  refine v_iconst (nI 0) dL_come_25 (by decide +kernel) ?_
  refine v_wide 1 6 (by decide) (by decide) ?_
  refine v_iret rfl dL_come_26 ⟨σ1, rfl, ⟨x9, τ9, rfl, hσ1.symm, hP9⟩⟩

set_option maxHeartbeats 4000000 in
set_option maxRecDepth 100000 in
theorem w_come_1 (lu : Launch) (Dg : va_G) (E : Nat → ClassId) (N : Nat) (G : Nat → Nat) (shp : Nat → (Nat → Int32) → va_E) (σ : Nat → Nat → Int32) (hS : StoodS E G shp N) (hN : 788 < N) (hO : shp 788 = LoS E 1) {p0 : Int32} {p1 : Int32} {σ' : Nat → Nat → Int32} (hM : Thr2 lu yX5_come wsX5_come { frames := 7, cells := 1, slots := 6, locals := 161 } Dg E N G (φ shp σ) (φ shp σ') [.ref (G 0), .int p0, .int p1] "java/lang/IndexOutOfBoundsException") : CW lu yL_come wsL_come { frames := 8, cells := 1, slots := 6, locals := 183 } Dg E N G shp σ [.ref (G 0), .int p0, .int p1, .ref (G 788)] (fun v τ => v = some (.int (nI 1)) ∧ τ = σ') := by
  refine CW.of (cc := cL_come) (maxL := 5) (ret := (some .int)) (by decide) rfl (Nat.le_of_ble_eq_true rfl) ?_
  intro p_ e_ s_ m_ args_ below_ meth_ c_ hX9 hC9 htab9
  refine v_eq (pc' := 0) (st' := []) rfl rfl ?_
  refine v_loc [0, 1, 2, 3] [(0, .ref (G 0)), (1, .int p0), (2, .int p1), (3, .ref (G 788))] rfl ?_
  refine v_aload_n 3 dL_come_0 rfl rfl ?_
  refine v_iconst (nI 0) dL_come_1 (by decide +kernel) ?_
  refine v_aload_n 0 dL_come_2 rfl rfl ?_
  refine v_iload_n 1 dL_come_3 rfl rfl ?_
  refine v_iload_n 2 dL_come_4 rfl rfl ?_
  refine v_catchV (As := [.int p0, .int p1]) (rest := [.int (nI 0), .ref (G 788)]) (ci := 5) (C := RX5) (T := TX5) (NF := 6) hX9 hM hS.o.1 (ob_Φ hS.o.2) rfl gL_come_X5_come rfl rfl rfl ⟨rfl, by decide +kernel, by decide +kernel, Eq.trans (b := some 2) (by decide +kernel) rfl⟩ ⟨Nat.le_of_ble_eq_true rfl, Nat.le_of_ble_eq_true rfl⟩ ⟨Nat.le_of_ble_eq_true rfl, Nat.le_of_ble_eq_true rfl⟩ (Nat.le_of_ble_eq_true rfl) rfl dL_come_5 [] ⟨0, 10, 13, 28⟩ [⟨0, 10, 17, 13⟩, ⟨0, 10, 21, 15⟩] (htab9.trans rfl) (fun _ h9 => absurd h9 List.not_mem_nil) (by decide) (by decide) (by decide +kernel) (by decide +kernel) (fun q9 => ?_)
  refine v_astore [(4, .ref q9), (0, .ref (G 0)), (1, .int p0), (2, .int p1), (3, .ref (G 788))] dL_come_13 (by decide) rfl ?_
  refine v_iconst (nI 1) dL_come_15 (by decide +kernel) ?_
  refine v_wide 1 6 (by decide) (by decide) ?_
  refine v_iret rfl dL_come_16 ⟨σ', rfl, ⟨rfl, rfl⟩⟩

set_option maxHeartbeats 4000000 in
set_option maxRecDepth 100000 in
theorem w_come_2 (lu : Launch) (Dg : va_G) (E : Nat → ClassId) (N : Nat) (G : Nat → Nat) (shp : Nat → (Nat → Int32) → va_E) (σ : Nat → Nat → Int32) (hS : StoodS E G shp N) (hN : 788 < N) (hO : shp 788 = LoS E 1) {p0 : Int32} {p1 : Int32} {σ' : Nat → Nat → Int32} (hM : Thr2 lu yX5_come wsX5_come { frames := 7, cells := 1, slots := 6, locals := 161 } Dg E N G (φ shp σ) (φ shp σ') [.ref (G 0), .int p0, .int p1] "java/lang/IllegalArgumentException") : CW lu yL_come wsL_come { frames := 8, cells := 1, slots := 6, locals := 183 } Dg E N G shp σ [.ref (G 0), .int p0, .int p1, .ref (G 788)] (fun v τ => v = some (.int (nI 2)) ∧ τ = σ') := by
  refine CW.of (cc := cL_come) (maxL := 5) (ret := (some .int)) (by decide) rfl (Nat.le_of_ble_eq_true rfl) ?_
  intro p_ e_ s_ m_ args_ below_ meth_ c_ hX9 hC9 htab9
  refine v_eq (pc' := 0) (st' := []) rfl rfl ?_
  refine v_loc [0, 1, 2, 3] [(0, .ref (G 0)), (1, .int p0), (2, .int p1), (3, .ref (G 788))] rfl ?_
  refine v_aload_n 3 dL_come_0 rfl rfl ?_
  refine v_iconst (nI 0) dL_come_1 (by decide +kernel) ?_
  refine v_aload_n 0 dL_come_2 rfl rfl ?_
  refine v_iload_n 1 dL_come_3 rfl rfl ?_
  refine v_iload_n 2 dL_come_4 rfl rfl ?_
  refine v_catchV (As := [.int p0, .int p1]) (rest := [.int (nI 0), .ref (G 788)]) (ci := 5) (C := RX5) (T := TX5) (NF := 6) hX9 hM hS.o.1 (ob_Φ hS.o.2) rfl gL_come_X5_come rfl rfl rfl ⟨rfl, by decide +kernel, by decide +kernel, Eq.trans (b := some 2) (by decide +kernel) rfl⟩ ⟨Nat.le_of_ble_eq_true rfl, Nat.le_of_ble_eq_true rfl⟩ ⟨Nat.le_of_ble_eq_true rfl, Nat.le_of_ble_eq_true rfl⟩ (Nat.le_of_ble_eq_true rfl) rfl dL_come_5 [⟨0, 10, 13, 28⟩] ⟨0, 10, 17, 13⟩ [⟨0, 10, 21, 15⟩] (htab9.trans rfl) (fun z9 h9 => by rw [List.mem_singleton] at h9; subst h9; exact Or.inr ⟨by decide, "java/lang/IndexOutOfBoundsException", by decide +kernel, hC9.1⟩) (by decide) (by decide) (by decide +kernel) (by decide +kernel) (fun q9 => ?_)
  refine v_astore [(4, .ref q9), (0, .ref (G 0)), (1, .int p0), (2, .int p1), (3, .ref (G 788))] dL_come_17 (by decide) rfl ?_
  refine v_iconst (nI 2) dL_come_19 (by decide +kernel) ?_
  refine v_wide 1 6 (by decide) (by decide) ?_
  refine v_iret rfl dL_come_20 ⟨σ', rfl, ⟨rfl, rfl⟩⟩

set_option maxHeartbeats 4000000 in
set_option maxRecDepth 100000 in
theorem w_come_3 (lu : Launch) (Dg : va_G) (E : Nat → ClassId) (N : Nat) (G : Nat → Nat) (shp : Nat → (Nat → Int32) → va_E) (σ : Nat → Nat → Int32) (hS : StoodS E G shp N) (hN : 788 < N) (hO : shp 788 = LoS E 1) {p0 : Int32} {p1 : Int32} {σ' : Nat → Nat → Int32} (hM : Thr2 lu yX5_come wsX5_come { frames := 7, cells := 1, slots := 6, locals := 161 } Dg E N G (φ shp σ) (φ shp σ') [.ref (G 0), .int p0, .int p1] "java/lang/IllegalStateException") : CW lu yL_come wsL_come { frames := 8, cells := 1, slots := 6, locals := 183 } Dg E N G shp σ [.ref (G 0), .int p0, .int p1, .ref (G 788)] (fun v τ => v = some (.int (nI 3)) ∧ τ = σ') := by
  refine CW.of (cc := cL_come) (maxL := 5) (ret := (some .int)) (by decide) rfl (Nat.le_of_ble_eq_true rfl) ?_
  intro p_ e_ s_ m_ args_ below_ meth_ c_ hX9 hC9 htab9
  refine v_eq (pc' := 0) (st' := []) rfl rfl ?_
  refine v_loc [0, 1, 2, 3] [(0, .ref (G 0)), (1, .int p0), (2, .int p1), (3, .ref (G 788))] rfl ?_
  refine v_aload_n 3 dL_come_0 rfl rfl ?_
  refine v_iconst (nI 0) dL_come_1 (by decide +kernel) ?_
  refine v_aload_n 0 dL_come_2 rfl rfl ?_
  refine v_iload_n 1 dL_come_3 rfl rfl ?_
  refine v_iload_n 2 dL_come_4 rfl rfl ?_
  refine v_catchV (As := [.int p0, .int p1]) (rest := [.int (nI 0), .ref (G 788)]) (ci := 5) (C := RX5) (T := TX5) (NF := 6) hX9 hM hS.o.1 (ob_Φ hS.o.2) rfl gL_come_X5_come rfl rfl rfl ⟨rfl, by decide +kernel, by decide +kernel, Eq.trans (b := some 2) (by decide +kernel) rfl⟩ ⟨Nat.le_of_ble_eq_true rfl, Nat.le_of_ble_eq_true rfl⟩ ⟨Nat.le_of_ble_eq_true rfl, Nat.le_of_ble_eq_true rfl⟩ (Nat.le_of_ble_eq_true rfl) rfl dL_come_5 [⟨0, 10, 13, 28⟩, ⟨0, 10, 17, 13⟩] ⟨0, 10, 21, 15⟩ [] (htab9.trans rfl) (fun z9 h9 => (List.mem_cons.mp h9).elim (fun h9 => by subst h9; exact Or.inr ⟨by decide, "java/lang/IndexOutOfBoundsException", by decide +kernel, hC9.2.1⟩) (fun h9 => by rw [List.mem_singleton] at h9; subst h9; exact Or.inr ⟨by decide, "java/lang/IllegalArgumentException", by decide +kernel, hC9.2.2⟩)) (by decide) (by decide) (by decide +kernel) (by decide +kernel) (fun q9 => ?_)
  refine v_astore [(4, .ref q9), (0, .ref (G 0)), (1, .int p0), (2, .int p1), (3, .ref (G 788))] dL_come_21 (by decide) rfl ?_
  refine v_iconst (nI 3) dL_come_23 (by decide +kernel) ?_
  refine v_wide 1 6 (by decide) (by decide) ?_
  refine v_iret rfl dL_come_24 ⟨σ', rfl, ⟨rfl, rfl⟩⟩

set_option maxHeartbeats 4000000 in
set_option maxRecDepth 100000 in
theorem w_go_0 (lu : Launch) (Dg : va_G) (E : Nat → ClassId) (N : Nat) (G : Nat → Nat) (shp : Nat → (Nat → Int32) → va_E) (σ : Nat → Nat → Int32) (hS : StoodS E G shp N) (hN : 788 < N) (hO : shp 788 = LoS E 1) {p0 : Int32} {P : Int32 → (Nat → Nat → Int32) → Prop} (hM : CX lu yX5_go wsX5_go { frames := 7, cells := 0, slots := 0, locals := 162 } Dg E N G shp σ [.ref (G 0), .int p0] (fun v τ => ∃ x, v = some (.int x) ∧ P x τ)) : CW lu yL_go wsL_go { frames := 9, cells := 1, slots := 6, locals := 203 } Dg E N G shp σ [.ref (G 0), .int p0, .ref (G 788)] (fun v τ => ∃ x τ0, v = some (.int (nI 0)) ∧ τ = st2 τ0 788 0 x ∧ P x τ0) := by
  refine CW.of (cc := cL_go) (maxL := 4) (ret := (some .int)) (by decide) rfl (Nat.le_of_ble_eq_true rfl) ?_
  intro p_ e_ s_ m_ args_ below_ meth_ c_ hX9 hC9 htab9
  refine v_eq (pc' := 0) (st' := []) rfl rfl ?_
  refine v_loc [0, 1, 2] [(0, .ref (G 0)), (1, .int p0), (2, .ref (G 788))] rfl ?_
  refine v_aload_n 2 dL_go_0 rfl rfl ?_
  refine v_iconst (nI 0) dL_go_1 (by decide +kernel) ?_
  refine v_aload_n 0 dL_go_2 rfl rfl ?_
  refine v_iload_n 1 dL_go_3 rfl rfl ?_
  refine u_callVx [.int p0] [.int (nI 0), .ref (G 788)] 1 (hM) (ci := 5) (C := RX5) (T := TX5) (NF := 6) hS.o.1 hS.o.2 rfl gL_go_X5_go rfl rfl rfl (by decide +kernel) rfl ⟨Nat.le_of_ble_eq_true rfl, Nat.le_of_ble_eq_true rfl⟩ ⟨Nat.le_of_ble_eq_true rfl, Nat.le_of_ble_eq_true rfl⟩ (Nat.le_of_ble_eq_true rfl) rfl dL_go_4 (fun v9 τ9 hp9 => ?_)
  obtain ⟨x9, rfl, hP9⟩ := hp9
  refine v_st (st' := [.int x9, .int (nI 0), .ref (G 788)]) rfl ?_
  refine v_i2l dL_go_7 ?_
  refine u_last (v := x9) 0 hN hO rfl (by omega) (by decide) dL_go_8 ?_
  generalize hσ1 : st2 τ9 788 0 (x9) = σ1
  refine v_goto 18 dL_go_9 rfl ?_
  refine v_iconst (nI 0) dL_go_18 (by decide +kernel) ?_
  refine v_wide 1 6 (by decide) (by decide) ?_
  refine v_iret rfl dL_go_19 ⟨σ1, rfl, ⟨x9, τ9, rfl, hσ1.symm, hP9⟩⟩

set_option maxHeartbeats 4000000 in
set_option maxRecDepth 100000 in
theorem w_go_1 (lu : Launch) (Dg : va_G) (E : Nat → ClassId) (N : Nat) (G : Nat → Nat) (shp : Nat → (Nat → Int32) → va_E) (σ : Nat → Nat → Int32) (hS : StoodS E G shp N) (hN : 788 < N) (hO : shp 788 = LoS E 1) {p0 : Int32} {σ' : Nat → Nat → Int32} (hM : Thr2 lu yX5_go wsX5_go { frames := 8, cells := 1, slots := 6, locals := 182 } Dg E N G (φ shp σ) (φ shp σ') [.ref (G 0), .int p0] "java/lang/IndexOutOfBoundsException") : CW lu yL_go wsL_go { frames := 9, cells := 1, slots := 6, locals := 203 } Dg E N G shp σ [.ref (G 0), .int p0, .ref (G 788)] (fun v τ => v = some (.int (nI 1)) ∧ τ = σ') := by
  refine CW.of (cc := cL_go) (maxL := 4) (ret := (some .int)) (by decide) rfl (Nat.le_of_ble_eq_true rfl) ?_
  intro p_ e_ s_ m_ args_ below_ meth_ c_ hX9 hC9 htab9
  refine v_eq (pc' := 0) (st' := []) rfl rfl ?_
  refine v_loc [0, 1, 2] [(0, .ref (G 0)), (1, .int p0), (2, .ref (G 788))] rfl ?_
  refine v_aload_n 2 dL_go_0 rfl rfl ?_
  refine v_iconst (nI 0) dL_go_1 (by decide +kernel) ?_
  refine v_aload_n 0 dL_go_2 rfl rfl ?_
  refine v_iload_n 1 dL_go_3 rfl rfl ?_
  refine v_catchV (As := [.int p0]) (rest := [.int (nI 0), .ref (G 788)]) (ci := 5) (C := RX5) (T := TX5) (NF := 6) hX9 hM hS.o.1 (ob_Φ hS.o.2) rfl gL_go_X5_go rfl rfl rfl ⟨rfl, by decide +kernel, by decide +kernel, Eq.trans (b := some 1) (by decide +kernel) rfl⟩ ⟨Nat.le_of_ble_eq_true rfl, Nat.le_of_ble_eq_true rfl⟩ ⟨Nat.le_of_ble_eq_true rfl, Nat.le_of_ble_eq_true rfl⟩ (Nat.le_of_ble_eq_true rfl) rfl dL_go_4 [] ⟨0, 9, 12, 28⟩ [⟨0, 9, 15, 15⟩] (htab9.trans rfl) (fun _ h9 => absurd h9 List.not_mem_nil) (by decide) (by decide) (by decide +kernel) (by decide +kernel) (fun q9 => ?_)
  refine v_astore_n [(3, .ref q9), (0, .ref (G 0)), (1, .int p0), (2, .ref (G 788))] dL_go_12 rfl (by decide) rfl ?_
  refine v_iconst (nI 1) dL_go_13 (by decide +kernel) ?_
  refine v_wide 1 6 (by decide) (by decide) ?_
  refine v_iret rfl dL_go_14 ⟨σ', rfl, ⟨rfl, rfl⟩⟩

set_option maxHeartbeats 4000000 in
set_option maxRecDepth 100000 in
theorem w_go_2 (lu : Launch) (Dg : va_G) (E : Nat → ClassId) (N : Nat) (G : Nat → Nat) (shp : Nat → (Nat → Int32) → va_E) (σ : Nat → Nat → Int32) (hS : StoodS E G shp N) (hN : 788 < N) (hO : shp 788 = LoS E 1) {p0 : Int32} {σ' : Nat → Nat → Int32} (hM : Thr2 lu yX5_go wsX5_go { frames := 8, cells := 1, slots := 6, locals := 182 } Dg E N G (φ shp σ) (φ shp σ') [.ref (G 0), .int p0] "java/lang/IllegalStateException") : CW lu yL_go wsL_go { frames := 9, cells := 1, slots := 6, locals := 203 } Dg E N G shp σ [.ref (G 0), .int p0, .ref (G 788)] (fun v τ => v = some (.int (nI 2)) ∧ τ = σ') := by
  refine CW.of (cc := cL_go) (maxL := 4) (ret := (some .int)) (by decide) rfl (Nat.le_of_ble_eq_true rfl) ?_
  intro p_ e_ s_ m_ args_ below_ meth_ c_ hX9 hC9 htab9
  refine v_eq (pc' := 0) (st' := []) rfl rfl ?_
  refine v_loc [0, 1, 2] [(0, .ref (G 0)), (1, .int p0), (2, .ref (G 788))] rfl ?_
  refine v_aload_n 2 dL_go_0 rfl rfl ?_
  refine v_iconst (nI 0) dL_go_1 (by decide +kernel) ?_
  refine v_aload_n 0 dL_go_2 rfl rfl ?_
  refine v_iload_n 1 dL_go_3 rfl rfl ?_
  refine v_catchV (As := [.int p0]) (rest := [.int (nI 0), .ref (G 788)]) (ci := 5) (C := RX5) (T := TX5) (NF := 6) hX9 hM hS.o.1 (ob_Φ hS.o.2) rfl gL_go_X5_go rfl rfl rfl ⟨rfl, by decide +kernel, by decide +kernel, Eq.trans (b := some 1) (by decide +kernel) rfl⟩ ⟨Nat.le_of_ble_eq_true rfl, Nat.le_of_ble_eq_true rfl⟩ ⟨Nat.le_of_ble_eq_true rfl, Nat.le_of_ble_eq_true rfl⟩ (Nat.le_of_ble_eq_true rfl) rfl dL_go_4 [⟨0, 9, 12, 28⟩] ⟨0, 9, 15, 15⟩ [] (htab9.trans rfl) (fun z9 h9 => by rw [List.mem_singleton] at h9; subst h9; exact Or.inr ⟨by decide, "java/lang/IndexOutOfBoundsException", by decide +kernel, hC9.2.1⟩) (by decide) (by decide) (by decide +kernel) (by decide +kernel) (fun q9 => ?_)
  refine v_astore_n [(3, .ref q9), (0, .ref (G 0)), (1, .int p0), (2, .ref (G 788))] dL_go_15 rfl (by decide) rfl ?_
  refine v_iconst (nI 2) dL_go_16 (by decide +kernel) ?_
  refine v_wide 1 6 (by decide) (by decide) ?_
  refine v_iret rfl dL_go_17 ⟨σ', rfl, ⟨rfl, rfl⟩⟩

set_option maxHeartbeats 4000000 in
set_option maxRecDepth 100000 in
theorem w_exchange_0 (lu : Launch) (Dg : va_G) (E : Nat → ClassId) (N : Nat) (G : Nat → Nat) (shp : Nat → (Nat → Int32) → va_E) (σ : Nat → Nat → Int32) (hS : StoodS E G shp N) (hN : 788 < N) (hO : shp 788 = LoS E 1) {p0 : Int32} {p1 : Int32} {P : Int32 → (Nat → Nat → Int32) → Prop} (hM : CX lu yX5_exchange wsX5_exchange { frames := 7, cells := 0, slots := 0, locals := 163 } Dg E N G shp σ [.ref (G 0), .int p0, .int p1] (fun v τ => ∃ x, v = some (.int x) ∧ P x τ)) : CW lu yL_exchange wsL_exchange { frames := 9, cells := 1, slots := 6, locals := 205 } Dg E N G shp σ [.ref (G 0), .int p0, .int p1, .ref (G 788)] (fun v τ => ∃ x τ0, v = some (.int (nI 0)) ∧ τ = st2 τ0 788 0 x ∧ P x τ0) := by
  refine CW.of (cc := cL_exchange) (maxL := 5) (ret := (some .int)) (by decide) rfl (Nat.le_of_ble_eq_true rfl) ?_
  intro p_ e_ s_ m_ args_ below_ meth_ c_ hX9 hC9 htab9
  refine v_eq (pc' := 0) (st' := []) rfl rfl ?_
  refine v_loc [0, 1, 2, 3] [(0, .ref (G 0)), (1, .int p0), (2, .int p1), (3, .ref (G 788))] rfl ?_
  refine v_aload_n 3 dL_exchange_0 rfl rfl ?_
  refine v_iconst (nI 0) dL_exchange_1 (by decide +kernel) ?_
  refine v_aload_n 0 dL_exchange_2 rfl rfl ?_
  refine v_iload_n 1 dL_exchange_3 rfl rfl ?_
  refine v_iload_n 2 dL_exchange_4 rfl rfl ?_
  refine u_callVx [.int p0, .int p1] [.int (nI 0), .ref (G 788)] 2 (hM) (ci := 5) (C := RX5) (T := TX5) (NF := 6) hS.o.1 hS.o.2 rfl gL_exchange_X5_exchange rfl rfl rfl (by decide +kernel) rfl ⟨Nat.le_of_ble_eq_true rfl, Nat.le_of_ble_eq_true rfl⟩ ⟨Nat.le_of_ble_eq_true rfl, Nat.le_of_ble_eq_true rfl⟩ (Nat.le_of_ble_eq_true rfl) rfl dL_exchange_5 (fun v9 τ9 hp9 => ?_)
  obtain ⟨x9, rfl, hP9⟩ := hp9
  refine v_st (st' := [.int x9, .int (nI 0), .ref (G 788)]) rfl ?_
  refine v_i2l dL_exchange_8 ?_
  refine u_last (v := x9) 0 hN hO rfl (by omega) (by decide) dL_exchange_9 ?_
  generalize hσ1 : st2 τ9 788 0 (x9) = σ1
  refine v_goto 21 dL_exchange_10 rfl ?_
  refine v_iconst (nI 0) dL_exchange_21 (by decide +kernel) ?_
  refine v_wide 1 6 (by decide) (by decide) ?_
  refine v_iret rfl dL_exchange_22 ⟨σ1, rfl, ⟨x9, τ9, rfl, hσ1.symm, hP9⟩⟩

set_option maxHeartbeats 4000000 in
set_option maxRecDepth 100000 in
theorem w_exchange_1 (lu : Launch) (Dg : va_G) (E : Nat → ClassId) (N : Nat) (G : Nat → Nat) (shp : Nat → (Nat → Int32) → va_E) (σ : Nat → Nat → Int32) (hS : StoodS E G shp N) (hN : 788 < N) (hO : shp 788 = LoS E 1) {p0 : Int32} {p1 : Int32} {σ' : Nat → Nat → Int32} (hM : Thr2 lu yX5_exchange wsX5_exchange { frames := 8, cells := 1, slots := 6, locals := 183 } Dg E N G (φ shp σ) (φ shp σ') [.ref (G 0), .int p0, .int p1] "java/lang/IndexOutOfBoundsException") : CW lu yL_exchange wsL_exchange { frames := 9, cells := 1, slots := 6, locals := 205 } Dg E N G shp σ [.ref (G 0), .int p0, .int p1, .ref (G 788)] (fun v τ => v = some (.int (nI 1)) ∧ τ = σ') := by
  refine CW.of (cc := cL_exchange) (maxL := 5) (ret := (some .int)) (by decide) rfl (Nat.le_of_ble_eq_true rfl) ?_
  intro p_ e_ s_ m_ args_ below_ meth_ c_ hX9 hC9 htab9
  refine v_eq (pc' := 0) (st' := []) rfl rfl ?_
  refine v_loc [0, 1, 2, 3] [(0, .ref (G 0)), (1, .int p0), (2, .int p1), (3, .ref (G 788))] rfl ?_
  refine v_aload_n 3 dL_exchange_0 rfl rfl ?_
  refine v_iconst (nI 0) dL_exchange_1 (by decide +kernel) ?_
  refine v_aload_n 0 dL_exchange_2 rfl rfl ?_
  refine v_iload_n 1 dL_exchange_3 rfl rfl ?_
  refine v_iload_n 2 dL_exchange_4 rfl rfl ?_
  refine v_catchV (As := [.int p0, .int p1]) (rest := [.int (nI 0), .ref (G 788)]) (ci := 5) (C := RX5) (T := TX5) (NF := 6) hX9 hM hS.o.1 (ob_Φ hS.o.2) rfl gL_exchange_X5_exchange rfl rfl rfl ⟨rfl, by decide +kernel, by decide +kernel, Eq.trans (b := some 2) (by decide +kernel) rfl⟩ ⟨Nat.le_of_ble_eq_true rfl, Nat.le_of_ble_eq_true rfl⟩ ⟨Nat.le_of_ble_eq_true rfl, Nat.le_of_ble_eq_true rfl⟩ (Nat.le_of_ble_eq_true rfl) rfl dL_exchange_5 [] ⟨0, 10, 13, 28⟩ [⟨0, 10, 17, 15⟩] (htab9.trans rfl) (fun _ h9 => absurd h9 List.not_mem_nil) (by decide) (by decide) (by decide +kernel) (by decide +kernel) (fun q9 => ?_)
  refine v_astore [(4, .ref q9), (0, .ref (G 0)), (1, .int p0), (2, .int p1), (3, .ref (G 788))] dL_exchange_13 (by decide) rfl ?_
  refine v_iconst (nI 1) dL_exchange_15 (by decide +kernel) ?_
  refine v_wide 1 6 (by decide) (by decide) ?_
  refine v_iret rfl dL_exchange_16 ⟨σ', rfl, ⟨rfl, rfl⟩⟩

set_option maxHeartbeats 4000000 in
set_option maxRecDepth 100000 in
theorem w_exchange_2 (lu : Launch) (Dg : va_G) (E : Nat → ClassId) (N : Nat) (G : Nat → Nat) (shp : Nat → (Nat → Int32) → va_E) (σ : Nat → Nat → Int32) (hS : StoodS E G shp N) (hN : 788 < N) (hO : shp 788 = LoS E 1) {p0 : Int32} {p1 : Int32} {σ' : Nat → Nat → Int32} (hM : Thr2 lu yX5_exchange wsX5_exchange { frames := 8, cells := 1, slots := 6, locals := 183 } Dg E N G (φ shp σ) (φ shp σ') [.ref (G 0), .int p0, .int p1] "java/lang/IllegalStateException") : CW lu yL_exchange wsL_exchange { frames := 9, cells := 1, slots := 6, locals := 205 } Dg E N G shp σ [.ref (G 0), .int p0, .int p1, .ref (G 788)] (fun v τ => v = some (.int (nI 2)) ∧ τ = σ') := by
  refine CW.of (cc := cL_exchange) (maxL := 5) (ret := (some .int)) (by decide) rfl (Nat.le_of_ble_eq_true rfl) ?_
  intro p_ e_ s_ m_ args_ below_ meth_ c_ hX9 hC9 htab9
  refine v_eq (pc' := 0) (st' := []) rfl rfl ?_
  refine v_loc [0, 1, 2, 3] [(0, .ref (G 0)), (1, .int p0), (2, .int p1), (3, .ref (G 788))] rfl ?_
  refine v_aload_n 3 dL_exchange_0 rfl rfl ?_
  refine v_iconst (nI 0) dL_exchange_1 (by decide +kernel) ?_
  refine v_aload_n 0 dL_exchange_2 rfl rfl ?_
  refine v_iload_n 1 dL_exchange_3 rfl rfl ?_
  refine v_iload_n 2 dL_exchange_4 rfl rfl ?_
  refine v_catchV (As := [.int p0, .int p1]) (rest := [.int (nI 0), .ref (G 788)]) (ci := 5) (C := RX5) (T := TX5) (NF := 6) hX9 hM hS.o.1 (ob_Φ hS.o.2) rfl gL_exchange_X5_exchange rfl rfl rfl ⟨rfl, by decide +kernel, by decide +kernel, Eq.trans (b := some 2) (by decide +kernel) rfl⟩ ⟨Nat.le_of_ble_eq_true rfl, Nat.le_of_ble_eq_true rfl⟩ ⟨Nat.le_of_ble_eq_true rfl, Nat.le_of_ble_eq_true rfl⟩ (Nat.le_of_ble_eq_true rfl) rfl dL_exchange_5 [⟨0, 10, 13, 28⟩] ⟨0, 10, 17, 15⟩ [] (htab9.trans rfl) (fun z9 h9 => by rw [List.mem_singleton] at h9; subst h9; exact Or.inr ⟨by decide, "java/lang/IndexOutOfBoundsException", by decide +kernel, hC9.2.1⟩) (by decide) (by decide) (by decide +kernel) (by decide +kernel) (fun q9 => ?_)
  refine v_astore [(4, .ref q9), (0, .ref (G 0)), (1, .int p0), (2, .int p1), (3, .ref (G 788))] dL_exchange_17 (by decide) rfl ?_
  refine v_iconst (nI 2) dL_exchange_19 (by decide +kernel) ?_
  refine v_wide 1 6 (by decide) (by decide) ?_
  refine v_iret rfl dL_exchange_20 ⟨σ', rfl, ⟨rfl, rfl⟩⟩

set_option maxHeartbeats 4000000 in
set_option maxRecDepth 100000 in
theorem w_jump_0 (lu : Launch) (Dg : va_G) (E : Nat → ClassId) (N : Nat) (G : Nat → Nat) (shp : Nat → (Nat → Int32) → va_E) (σ : Nat → Nat → Int32) (hS : StoodS E G shp N) (hN : 788 < N) (hO : shp 788 = LoS E 1) {p0 : Int32} {P : Int32 → (Nat → Nat → Int32) → Prop} (hM : CX lu yX5_jump wsX5_jump { frames := 6, cells := 0, slots := 0, locals := 141 } Dg E N G shp σ [.ref (G 0), .int p0] (fun v τ => ∃ x, v = some (.int x) ∧ P x τ)) : CW lu yL_jump wsL_jump { frames := 8, cells := 1, slots := 6, locals := 182 } Dg E N G shp σ [.ref (G 0), .int p0, .ref (G 788)] (fun v τ => ∃ x τ0, v = some (.int (nI 0)) ∧ τ = st2 τ0 788 0 x ∧ P x τ0) := by
  refine CW.of (cc := cL_jump) (maxL := 4) (ret := (some .int)) (by decide) rfl (Nat.le_of_ble_eq_true rfl) ?_
  intro p_ e_ s_ m_ args_ below_ meth_ c_ hX9 hC9 htab9
  refine v_eq (pc' := 0) (st' := []) rfl rfl ?_
  refine v_loc [0, 1, 2] [(0, .ref (G 0)), (1, .int p0), (2, .ref (G 788))] rfl ?_
  refine v_aload_n 2 dL_jump_0 rfl rfl ?_
  refine v_iconst (nI 0) dL_jump_1 (by decide +kernel) ?_
  refine v_aload_n 0 dL_jump_2 rfl rfl ?_
  refine v_iload_n 1 dL_jump_3 rfl rfl ?_
  refine u_callVx [.int p0] [.int (nI 0), .ref (G 788)] 1 (hM) (ci := 5) (C := RX5) (T := TX5) (NF := 6) hS.o.1 hS.o.2 rfl gL_jump_X5_jump rfl rfl rfl (by decide +kernel) rfl ⟨Nat.le_of_ble_eq_true rfl, Nat.le_of_ble_eq_true rfl⟩ ⟨Nat.le_of_ble_eq_true rfl, Nat.le_of_ble_eq_true rfl⟩ (Nat.le_of_ble_eq_true rfl) rfl dL_jump_4 (fun v9 τ9 hp9 => ?_)
  obtain ⟨x9, rfl, hP9⟩ := hp9
  refine v_st (st' := [.int x9, .int (nI 0), .ref (G 788)]) rfl ?_
  refine v_i2l dL_jump_7 ?_
  refine u_last (v := x9) 0 hN hO rfl (by omega) (by decide) dL_jump_8 ?_
  generalize hσ1 : st2 τ9 788 0 (x9) = σ1
  refine v_goto 18 dL_jump_9 rfl ?_
  refine v_iconst (nI 0) dL_jump_18 (by decide +kernel) ?_
  refine v_wide 1 6 (by decide) (by decide) ?_
  refine v_iret rfl dL_jump_19 ⟨σ1, rfl, ⟨x9, τ9, rfl, hσ1.symm, hP9⟩⟩

set_option maxHeartbeats 4000000 in
set_option maxRecDepth 100000 in
theorem w_jump_1 (lu : Launch) (Dg : va_G) (E : Nat → ClassId) (N : Nat) (G : Nat → Nat) (shp : Nat → (Nat → Int32) → va_E) (σ : Nat → Nat → Int32) (hS : StoodS E G shp N) (hN : 788 < N) (hO : shp 788 = LoS E 1) {p0 : Int32} {σ' : Nat → Nat → Int32} (hM : Thr2 lu yX5_jump wsX5_jump { frames := 7, cells := 1, slots := 6, locals := 161 } Dg E N G (φ shp σ) (φ shp σ') [.ref (G 0), .int p0] "java/lang/IndexOutOfBoundsException") : CW lu yL_jump wsL_jump { frames := 8, cells := 1, slots := 6, locals := 182 } Dg E N G shp σ [.ref (G 0), .int p0, .ref (G 788)] (fun v τ => v = some (.int (nI 1)) ∧ τ = σ') := by
  refine CW.of (cc := cL_jump) (maxL := 4) (ret := (some .int)) (by decide) rfl (Nat.le_of_ble_eq_true rfl) ?_
  intro p_ e_ s_ m_ args_ below_ meth_ c_ hX9 hC9 htab9
  refine v_eq (pc' := 0) (st' := []) rfl rfl ?_
  refine v_loc [0, 1, 2] [(0, .ref (G 0)), (1, .int p0), (2, .ref (G 788))] rfl ?_
  refine v_aload_n 2 dL_jump_0 rfl rfl ?_
  refine v_iconst (nI 0) dL_jump_1 (by decide +kernel) ?_
  refine v_aload_n 0 dL_jump_2 rfl rfl ?_
  refine v_iload_n 1 dL_jump_3 rfl rfl ?_
  refine v_catchV (As := [.int p0]) (rest := [.int (nI 0), .ref (G 788)]) (ci := 5) (C := RX5) (T := TX5) (NF := 6) hX9 hM hS.o.1 (ob_Φ hS.o.2) rfl gL_jump_X5_jump rfl rfl rfl ⟨rfl, by decide +kernel, by decide +kernel, Eq.trans (b := some 1) (by decide +kernel) rfl⟩ ⟨Nat.le_of_ble_eq_true rfl, Nat.le_of_ble_eq_true rfl⟩ ⟨Nat.le_of_ble_eq_true rfl, Nat.le_of_ble_eq_true rfl⟩ (Nat.le_of_ble_eq_true rfl) rfl dL_jump_4 [] ⟨0, 9, 12, 28⟩ [⟨0, 9, 15, 15⟩] (htab9.trans rfl) (fun _ h9 => absurd h9 List.not_mem_nil) (by decide) (by decide) (by decide +kernel) (by decide +kernel) (fun q9 => ?_)
  refine v_astore_n [(3, .ref q9), (0, .ref (G 0)), (1, .int p0), (2, .ref (G 788))] dL_jump_12 rfl (by decide) rfl ?_
  refine v_iconst (nI 1) dL_jump_13 (by decide +kernel) ?_
  refine v_wide 1 6 (by decide) (by decide) ?_
  refine v_iret rfl dL_jump_14 ⟨σ', rfl, ⟨rfl, rfl⟩⟩
