set_option maxRecDepth 100000 in
theorem inX0_isFull_X0 : ∀ w ∈ wsX00, w ∈ wsX0_isFull := by decide +kernel
set_option maxHeartbeats 4000000 in
set_option maxRecDepth 100000 in
/-- Day.isFull -/
theorem c_X0_isFull (lu : Launch) (Dg : va_G) (E : Nat → ClassId) (N : Nat) (G : Nat → Nat) (shp : Nat → (Nat → Int32) → va_E) (σ : Nat → Nat → Int32) {x : Nat} (hX : DayS E G shp N x)  {lz : Nat} (hl : σ x 1 = nI lz) (h100 : lz ≤ 100)  : CS lu yX0_isFull wsX0_isFull { frames := 0, cells := 0, slots := 0, locals := 0 } Dg E N G shp σ [.ref (G x)] (some (.int (bi (100 ≤ lz)))) σ := by
  refine CS.of (cc := cX0_isFull) (maxL := 1) (ret := (some .boolean)) (by decide) rfl (Nat.le_of_ble_eq_true rfl) ?_
  intro p_ e_ s_ m_ args_ below_ meth_ c_
  refine v_eq (pc' := 0) (st' := []) rfl rfl ?_
  refine v_loc [0] [(0, .ref (G x))] rfl ?_
  refine v_aload_n 0 dX0_isFull_0 rfl rfl ?_
  refine u_geti (k := 1) (C := RX0) (T := TX0) (NF := 3) hX.n hX.2.1 rfl rfl inX0_isFull_X0 (by decide) (by decide +kernel) rfl dX0_isFull_1 ?_
  refine v_topi (nI lz) (hl) ?_
  refine v_aload_n 0 dX0_isFull_4 rfl rfl ?_
  refine u_getr (k := 0) (C := RX0) (T := TX0) (NF := 3) hX.n hX.2.1 rfl rfl inX0_isFull_X0 (by decide) (by decide +kernel) rfl dX0_isFull_5 ?_
  refine u_alenI 0 hX.1 hX.2.2 rfl dX0_isFull_8 ?_
  refine v_icmp_ltN 16 (by omega) (by omega) dX0_isFull_9 rfl (fun h9 => ?_) (fun h9 => ?_)
  · skip
    refine v_iconst (nI 0) dX0_isFull_16 (by decide +kernel) ?_
    refine v_zret rfl (by decide +kernel) dX0_isFull_17 ⟨congrArg (fun z => some (Value.int z)) ?_, congrArg (φ shp) ?_⟩
    · exact bi_nf (by omega)
    · rfl
  · skip
    refine v_iconst (nI 1) dX0_isFull_12 (by decide +kernel) ?_
    refine v_goto 17 dX0_isFull_13 rfl ?_
    refine v_zret rfl (by decide +kernel) dX0_isFull_17 ⟨congrArg (fun z => some (Value.int z)) ?_, congrArg (φ shp) ?_⟩
    · exact bi_nt (by omega)
    · rfl

set_option maxRecDepth 100000 in
theorem inX0_drop_X0 : ∀ w ∈ wsX00, w ∈ wsX0_drop := by decide +kernel
set_option maxHeartbeats 4000000 in
set_option maxRecDepth 100000 in
/-- Day.drop -/
theorem c_X0_drop (lu : Launch) (Dg : va_G) (E : Nat → ClassId) (N : Nat) (G : Nat → Nat) (shp : Nat → (Nat → Int32) → va_E) (σ : Nat → Nat → Int32) {x : Nat} (hX : DayS E G shp N x)  {lz : Nat} (hl : σ x 1 = nI lz)  : CS lu yX0_drop wsX0_drop { frames := 0, cells := 0, slots := 0, locals := 0 } Dg E N G shp σ [.ref (G x)] (some (.int (nI lz))) (st2 σ x 1 (nI 0)) := by
  refine CS.of (cc := cX0_drop) (maxL := 2) (ret := (some .int)) (by decide) rfl (Nat.le_of_ble_eq_true rfl) ?_
  intro p_ e_ s_ m_ args_ below_ meth_ c_
  refine v_eq (pc' := 0) (st' := []) rfl rfl ?_
  refine v_loc [0] [(0, .ref (G x))] rfl ?_
  refine v_aload_n 0 dX0_drop_0 rfl rfl ?_
  refine u_geti (k := 1) (C := RX0) (T := TX0) (NF := 3) hX.n hX.2.1 rfl rfl inX0_drop_X0 (by decide) (by decide +kernel) rfl dX0_drop_1 ?_
  refine v_topi (nI lz) (hl) ?_
  refine v_istore_n [(1, .int (nI lz)), (0, .ref (G x))] dX0_drop_4 rfl (by decide) rfl ?_
  refine v_aload_n 1 dX0_drop_5 rfl rfl ?_
  refine v_iconst (nI 0) dX0_drop_6 (by decide +kernel) ?_
  refine u_puti (k := 1) (C := RX0) (T := TX0) (NF := 3) (ty := .int) hX.n hX.2.1 rfl rfl inX0_drop_X0 tyX0 tyX0_ok nmX0 (by decide) (by decide +kernel) rfl rfl (by decide +kernel) rfl rfl dX0_drop_7 ?_
  generalize hσ1 : st2 σ x 1 (nI 0) = σ1
  refine v_iload_n 0 dX0_drop_10 rfl rfl ?_
  refine v_iret rfl dX0_drop_11 ⟨congrArg (fun z => some (Value.int z)) ?_, congrArg (φ shp) ?_⟩
  · rfl
  · subst hσ1; rfl

set_option maxRecDepth 100000 in
theorem inX0_add_X0 : ∀ w ∈ wsX00, w ∈ wsX0_add := by decide +kernel
set_option maxHeartbeats 4000000 in
set_option maxRecDepth 100000 in
/-- Day.add -/
theorem c_X0_add (lu : Launch) (Dg : va_G) (E : Nat → ClassId) (N : Nat) (G : Nat → Nat) (shp : Nat → (Nat → Int32) → va_E) (σ : Nat → Nat → Int32) {x : Nat} (hX : DayS E G shp N x)  {lz : Nat} (hl : σ x 1 = nI lz) (h100 : lz < 100) (v : Int32)  : CS lu yX0_add wsX0_add { frames := 1, cells := 0, slots := 0, locals := 20 } Dg E N G shp σ [.ref (G x), .int v] (some (.int (nI (lz + 1)))) (st2 (st2 σ (x + 1) lz v) x 1 (nI (lz + 1))) := by
  refine CS.of (cc := cX0_add) (maxL := 2) (ret := (some .int)) (by decide) rfl (Nat.le_of_ble_eq_true rfl) ?_
  intro p_ e_ s_ m_ args_ below_ meth_ c_
  refine v_eq (pc' := 0) (st' := []) rfl rfl ?_
  refine v_loc [0, 1] [(0, .ref (G x)), (1, .int v)] rfl ?_
  refine v_aload_n 0 dX0_add_0 rfl rfl ?_
  refine u_callVv [] [] 0 (c_X0_isFull lu Dg E N G shp σ hX (lz := lz) hl (by omega)) (ci := 0) (C := RX0) (T := TX0) (NF := 3) hX.n hX.2.1 rfl gX0_add_X0_isFull rfl rfl rfl (by decide +kernel) rfl ⟨Nat.le_of_ble_eq_true rfl, Nat.le_of_ble_eq_true rfl⟩ ⟨Nat.le_of_ble_eq_true rfl, Nat.le_of_ble_eq_true rfl⟩ (Nat.le_of_ble_eq_true rfl) rfl dX0_add_1 ?_
  refine v_if_neB 27 dX0_add_4 rfl (fun h4 => ?_) (fun h4 => ?_)
  · skip
    omega
  · skip
    refine v_aload_n 0 dX0_add_7 rfl rfl ?_
    refine u_getr (k := 0) (C := RX0) (T := TX0) (NF := 3) hX.n hX.2.1 rfl rfl inX0_add_X0 (by decide) (by decide +kernel) rfl dX0_add_8 ?_
    refine v_aload_n 0 dX0_add_11 rfl rfl ?_
    refine u_geti (k := 1) (C := RX0) (T := TX0) (NF := 3) hX.n hX.2.1 rfl rfl inX0_add_X0 (by decide) (by decide +kernel) rfl dX0_add_12 ?_
    refine v_topi (nI lz) (hl) ?_
    refine v_iload_n 1 dX0_add_15 rfl rfl ?_
    refine u_iast lz hX.1 hX.2.2 rfl (by omega) (by decide) dX0_add_16 ?_
    generalize hσ1 : st2 σ (x + 1) lz (v) = σ1
    refine v_aload_n 0 dX0_add_17 rfl rfl ?_
    refine v_dup dX0_add_18 rfl ?_
    refine u_geti (k := 1) (C := RX0) (T := TX0) (NF := 3) hX.n hX.2.1 rfl rfl inX0_add_X0 (by decide) (by decide +kernel) rfl dX0_add_19 ?_
    refine v_topi (nI lz) ((by subst hσ1; rw [st2_eq, if_neg (by omega)]; exact hl)) ?_
    refine v_iconst (nI 1) dX0_add_22 (by decide +kernel) ?_
    refine v_iaddN dX0_add_23 ?_
    refine u_puti (k := 1) (C := RX0) (T := TX0) (NF := 3) (ty := .int) hX.n hX.2.1 rfl rfl inX0_add_X0 tyX0 tyX0_ok nmX0 (by decide) (by decide +kernel) rfl rfl (by decide +kernel) rfl rfl dX0_add_24 ?_
    generalize hσ2 : st2 σ1 x 1 (nI (lz + 1)) = σ2
    refine v_aload_n 0 dX0_add_27 rfl rfl ?_
    refine u_geti (k := 1) (C := RX0) (T := TX0) (NF := 3) hX.n hX.2.1 rfl rfl inX0_add_X0 (by decide) (by decide +kernel) rfl dX0_add_28 ?_
    refine v_topi (nI (lz + 1)) ((by subst hσ2; exact st2_same _ _ _ _)) ?_
    refine v_iret rfl dX0_add_31 ⟨congrArg (fun z => some (Value.int z)) ?_, congrArg (φ shp) ?_⟩
    · rfl
    · subst hσ2; subst hσ1; rfl

set_option maxHeartbeats 4000000 in
set_option maxRecDepth 100000 in
theorem c_X5_append_x (lu : Launch) (hl9 : lu.stackTraces = false) (Dg : va_G) (E : Nat → ClassId) (N : Nat) (G : Nat → Nat) (shp : Nat → (Nat → Int32) → va_E) (σ : Nat → Nat → Int32) (hS : StoodS E G shp N) (c : Nat → Int32) (x : Int32) (hx : ¬ Rg 256 x) : Thr lu yX5_append wsX5_append { frames := 6, cells := 1, slots := 6, locals := 140 } Dg E N G (φ shp (hs σ 1 c)) [.ref (G 0), .int x] "java/lang/IllegalArgumentException" := by
  refine Thr.of (cc := cX5_append) (maxL := 2) (ret := (some .int)) (by decide) rfl (Nat.le_of_ble_eq_true rfl) ?_
  intro p_ e_ s_ m_ args_ below_ meth_ c_ hX9 hex9
  refine v_eq (pc' := 0) (st' := []) rfl rfl ?_
  refine v_loc [0, 1] [(0, .ref (G 0)), (1, .int x)] rfl ?_
  refine v_iload_n 1 dX5_append_0 rfl rfl ?_
  refine v_if_lt 11 dX5_append_1 rfl (fun h1 => ?_) (fun h1 => ?_)
  · skip
    refine v_throwS (X := "java/lang/IllegalArgumentException") (names := ["java/lang/RuntimeException", "java/lang/Exception"]) hX9 hex9 hl9 rfl (by decide +kernel) (by decide +kernel) (by decide +kernel) (by decide +kernel) (strT_mem 50 (by decide +kernel)) (by decide +kernel) (by decide +kernel) (by decide +kernel) (by decide +kernel) dX5_append_11 dX5_append_14 dX5_append_15 dX5_append_17 dX5_append_20 (Nat.le_of_ble_eq_true rfl) (Nat.le_of_ble_eq_true rfl) (Nat.le_of_ble_eq_true rfl) (Nat.le_of_ble_eq_true rfl)
  · skip
    refine v_iload_n 1 dX5_append_4 rfl rfl ?_
    refine v_sipush (nI 255) dX5_append_5 (by decide +kernel) ?_
    refine v_icmp_le 21 dX5_append_8 rfl (fun h8 => ?_) (fun h8 => ?_)
    · skip
      exact absurd ((Rg_le (n := 255) (by omega) x).mp ⟨by rw [nI_z]; exact Int32.not_lt.mp h1, h8⟩) hx
    · skip
      refine v_throwS (X := "java/lang/IllegalArgumentException") (names := ["java/lang/RuntimeException", "java/lang/Exception"]) hX9 hex9 hl9 rfl (by decide +kernel) (by decide +kernel) (by decide +kernel) (by decide +kernel) (strT_mem 50 (by decide +kernel)) (by decide +kernel) (by decide +kernel) (by decide +kernel) (by decide +kernel) dX5_append_11 dX5_append_14 dX5_append_15 dX5_append_17 dX5_append_20 (Nat.le_of_ble_eq_true rfl) (Nat.le_of_ble_eq_true rfl) (Nat.le_of_ble_eq_true rfl) (Nat.le_of_ble_eq_true rfl)

set_option maxRecDepth 100000 in
theorem inX5_append_X5 : ∀ w ∈ wsX50, w ∈ wsX5_append := by decide +kernel
set_option maxHeartbeats 4000000 in
set_option maxRecDepth 100000 in
theorem c_X5_append_y (lu : Launch) (hl9 : lu.stackTraces = false) (Dg : va_G) (E : Nat → ClassId) (N : Nat) (G : Nat → Nat) (shp : Nat → (Nat → Int32) → va_E) (σ : Nat → Nat → Int32) (hS : StoodS E G shp N) (c : Nat → Int32)  {lz : Nat} (hl : σ 779 1 = nI lz) (h100 : lz = 100) {kz : Nat} (hk : kz < 256) : Thr lu yX5_append wsX5_append { frames := 6, cells := 1, slots := 6, locals := 140 } Dg E N G (φ shp (hs σ 1 c)) [.ref (G 0), .int (nI kz)] "java/lang/IllegalStateException" := by
  refine Thr.of (cc := cX5_append) (maxL := 2) (ret := (some .int)) (by decide) rfl (Nat.le_of_ble_eq_true rfl) ?_
  intro p_ e_ s_ m_ args_ below_ meth_ c_ hX9 hex9
  refine v_eq (pc' := 0) (st' := []) rfl rfl ?_
  refine v_loc [0, 1] [(0, .ref (G 0)), (1, .int (nI kz))] rfl ?_
  refine v_iload_n 1 dX5_append_0 rfl rfl ?_
  refine v_if_ltN (by omega) dX5_append_1 ⟨11, rfl⟩ ?_
  refine v_iload_n 1 dX5_append_4 rfl rfl ?_
  refine v_sipush (nI 255) dX5_append_5 (by decide +kernel) ?_
  refine v_icmp_leN 21 (by omega) (by omega) dX5_append_8 rfl (fun h8 => ?_) (fun h8 => ?_)
  · skip
    refine v_aload_n 0 dX5_append_21 rfl rfl ?_
    refine u_getr (k := 5) (C := RX5) (T := TX5) (NF := 6) hS.o.1 hS.o.2 rfl rfl inX5_append_X5 (by decide) (by decide +kernel) rfl dX5_append_22 ?_
    refine u_callVv [] [] 0 (c_X0_isFull lu Dg E N G shp (hs σ 1 c) hS.d (lz := lz) (by rw [hs_out (by omega)]; exact hl) (by omega)) (ci := 0) (C := RX0) (T := TX0) (NF := 3) hS.d.n hS.d.2.1 rfl gX5_append_X0_isFull rfl rfl rfl (by decide +kernel) rfl ⟨Nat.le_of_ble_eq_true rfl, Nat.le_of_ble_eq_true rfl⟩ ⟨Nat.le_of_ble_eq_true rfl, Nat.le_of_ble_eq_true rfl⟩ (Nat.le_of_ble_eq_true rfl) rfl dX5_append_25 ?_
    refine v_if_eqB 41 dX5_append_28 rfl (fun h28 => ?_) (fun h28 => ?_)
    · skip
      omega
    · skip
      refine v_throwS (X := "java/lang/IllegalStateException") (names := ["java/lang/RuntimeException", "java/lang/Exception"]) hX9 hex9 hl9 rfl (by decide +kernel) (by decide +kernel) (by decide +kernel) (by decide +kernel) (strT_mem 61 (by decide +kernel)) (by decide +kernel) (by decide +kernel) (by decide +kernel) (by decide +kernel) dX5_append_31 dX5_append_34 dX5_append_35 dX5_append_37 dX5_append_40 (Nat.le_of_ble_eq_true rfl) (Nat.le_of_ble_eq_true rfl) (Nat.le_of_ble_eq_true rfl) (Nat.le_of_ble_eq_true rfl)
  · skip
    omega

set_option maxHeartbeats 4000000 in
set_option maxRecDepth 100000 in
theorem c_X5_append_0 (lu : Launch) (Dg : va_G) (E : Nat → ClassId) (N : Nat) (G : Nat → Nat) (shp : Nat → (Nat → Int32) → va_E) (σ : Nat → Nat → Int32) (hS : StoodS E G shp N) (c : Nat → Int32)  {lz : Nat} (hl : σ 779 1 = nI lz) (h100 : lz < 100) {kz : Nat} (hk : kz < 256)  : CS lu yX5_append wsX5_append { frames := 5, cells := 0, slots := 0, locals := 120 } Dg E N G shp (hs σ 1 c) [.ref (G 0), .int (nI kz)] (some (.int (nI (lz + 1)))) (hs (st2 (st2 σ 780 lz (nI kz)) 779 1 (nI (lz + 1))) 1 c) := by
  refine CS.of (cc := cX5_append) (maxL := 2) (ret := (some .int)) (by decide) rfl (Nat.le_of_ble_eq_true rfl) ?_
  intro p_ e_ s_ m_ args_ below_ meth_ c_
  refine v_eq (pc' := 0) (st' := []) rfl rfl ?_
  refine v_loc [0, 1] [(0, .ref (G 0)), (1, .int (nI kz))] rfl ?_
  refine v_iload_n 1 dX5_append_0 rfl rfl ?_
  refine v_if_ltN (by omega) dX5_append_1 ⟨11, rfl⟩ ?_
  refine v_iload_n 1 dX5_append_4 rfl rfl ?_
  refine v_sipush (nI 255) dX5_append_5 (by decide +kernel) ?_
  refine v_icmp_leN 21 (by omega) (by omega) dX5_append_8 rfl (fun h8 => ?_) (fun h8 => ?_)
  · skip
    refine v_aload_n 0 dX5_append_21 rfl rfl ?_
    refine u_getr (k := 5) (C := RX5) (T := TX5) (NF := 6) hS.o.1 hS.o.2 rfl rfl inX5_append_X5 (by decide) (by decide +kernel) rfl dX5_append_22 ?_
    refine u_callVv [] [] 0 (c_X0_isFull lu Dg E N G shp (hs σ 1 c) hS.d (lz := lz) (by rw [hs_out (by omega)]; exact hl) (by omega)) (ci := 0) (C := RX0) (T := TX0) (NF := 3) hS.d.n hS.d.2.1 rfl gX5_append_X0_isFull rfl rfl rfl (by decide +kernel) rfl ⟨Nat.le_of_ble_eq_true rfl, Nat.le_of_ble_eq_true rfl⟩ ⟨Nat.le_of_ble_eq_true rfl, Nat.le_of_ble_eq_true rfl⟩ (Nat.le_of_ble_eq_true rfl) rfl dX5_append_25 ?_
    refine v_if_eqB 41 dX5_append_28 rfl (fun h28 => ?_) (fun h28 => ?_)
    · skip
      refine v_aload_n 0 dX5_append_41 rfl rfl ?_
      refine u_getr (k := 5) (C := RX5) (T := TX5) (NF := 6) hS.o.1 hS.o.2 rfl rfl inX5_append_X5 (by decide) (by decide +kernel) rfl dX5_append_42 ?_
      refine v_iload_n 1 dX5_append_45 rfl rfl ?_
      refine u_callVv [.int (nI kz)] [] 1 ((c_X0_add lu Dg E N G shp (hs σ 1 c) hS.d (lz := lz) (by rw [hs_out (by omega)]; exact hl) h100 (nI kz)).preS rfl (by rw [st2_hs (by omega), st2_hs (by omega)])) (ci := 0) (C := RX0) (T := TX0) (NF := 3) hS.d.n hS.d.2.1 rfl gX5_append_X0_add rfl rfl rfl (by decide +kernel) rfl ⟨Nat.le_of_ble_eq_true rfl, Nat.le_of_ble_eq_true rfl⟩ ⟨Nat.le_of_ble_eq_true rfl, Nat.le_of_ble_eq_true rfl⟩ (Nat.le_of_ble_eq_true rfl) rfl dX5_append_46 ?_
      refine v_iret rfl dX5_append_49 ⟨congrArg (fun z => some (Value.int z)) ?_, congrArg (φ shp) ?_⟩
      · rfl
      · rfl
    · skip
      omega
  · skip
    omega

set_option maxRecDepth 100000 in
theorem inX5_clearText_X5 : ∀ w ∈ wsX50, w ∈ wsX5_clearText := by decide +kernel
set_option maxHeartbeats 4000000 in
set_option maxRecDepth 100000 in
theorem c_X5_clearText_0 (lu : Launch) (Dg : va_G) (E : Nat → ClassId) (N : Nat) (G : Nat → Nat) (shp : Nat → (Nat → Int32) → va_E) (σ : Nat → Nat → Int32) (hS : StoodS E G shp N) (c : Nat → Int32)  {lz : Nat} (hl : σ 779 1 = nI lz)  : CS lu yX5_clearText wsX5_clearText { frames := 1, cells := 0, slots := 0, locals := 21 } Dg E N G shp (hs σ 1 c) [.ref (G 0)] (some (.int (nI lz))) (hs (st2 σ 779 1 (nI 0)) 1 c) := by
  refine CS.of (cc := cX5_clearText) (maxL := 1) (ret := (some .int)) (by decide) rfl (Nat.le_of_ble_eq_true rfl) ?_
  intro p_ e_ s_ m_ args_ below_ meth_ c_
  refine v_eq (pc' := 0) (st' := []) rfl rfl ?_
  refine v_loc [0] [(0, .ref (G 0))] rfl ?_
  refine v_aload_n 0 dX5_clearText_0 rfl rfl ?_
  refine u_getr (k := 5) (C := RX5) (T := TX5) (NF := 6) hS.o.1 hS.o.2 rfl rfl inX5_clearText_X5 (by decide) (by decide +kernel) rfl dX5_clearText_1 ?_
  refine u_callVv [] [] 0 ((c_X0_drop lu Dg E N G shp (hs σ 1 c) hS.d (lz := lz) (by rw [hs_out (by omega)]; exact hl)).preS rfl (by rw [st2_hs (by omega)])) (ci := 0) (C := RX0) (T := TX0) (NF := 3) hS.d.n hS.d.2.1 rfl gX5_clearText_X0_drop rfl rfl rfl (by decide +kernel) rfl ⟨Nat.le_of_ble_eq_true rfl, Nat.le_of_ble_eq_true rfl⟩ ⟨Nat.le_of_ble_eq_true rfl, Nat.le_of_ble_eq_true rfl⟩ (Nat.le_of_ble_eq_true rfl) rfl dX5_clearText_4 ?_
  refine v_iret rfl dX5_clearText_7 ⟨congrArg (fun z => some (Value.int z)) ?_, congrArg (φ shp) ?_⟩
  · rfl
  · rfl
