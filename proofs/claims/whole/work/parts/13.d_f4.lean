set_option maxHeartbeats 4000000 in
set_option maxRecDepth 100000 in
theorem c_X5_set_x (lu : Launch) (hl9 : lu.stackTraces = false) (Dg : va_G) (E : Nat → ClassId) (N : Nat) (G : Nat → Nat) (shp : Nat → (Nat → Int32) → va_E) (σ : Nat → Nat → Int32) (hS : StoodS E G shp N) (c : Nat → Int32) (x y : Int32) (hx : ¬ Rg 4 x) : Thr lu yX5_set wsX5_set { frames := 7, cells := 1, slots := 6, locals := 160 } Dg E N G (φ shp (hs σ 1 c)) [.ref (G 0), .int x, .int y] "java/lang/IllegalArgumentException" := by
  refine Thr.of (cc := cX5_set) (maxL := 3) (ret := (some .int)) (by decide) rfl (Nat.le_of_ble_eq_true rfl) ?_
  intro p_ e_ s_ m_ args_ below_ meth_ c_ hX9 hex9
  refine v_eq (pc' := 0) (st' := []) rfl rfl ?_
  refine v_loc [0, 1, 2] [(0, .ref (G 0)), (1, .int x), (2, .int y)] rfl ?_
  refine v_iload_n 1 dX5_set_0 rfl rfl ?_
  refine v_thrS (As := [.int x]) (rest := []) hX9 hex9 (c_X5_requireSetting_x lu hl9 Dg E N G shp (hs σ 1 c) (x) hx) gX5_set_X5_requireSetting rfl rfl rfl ⟨by decide +kernel, by decide +kernel, Eq.trans (b := some 1) (by decide +kernel) rfl⟩ ⟨Nat.le_of_ble_eq_true rfl, Nat.le_of_ble_eq_true rfl⟩ ⟨Nat.le_of_ble_eq_true rfl, Nat.le_of_ble_eq_true rfl⟩ (Nat.le_of_ble_eq_true rfl) rfl dX5_set_1

set_option maxHeartbeats 4000000 in
set_option maxRecDepth 100000 in
theorem c_X5_set_y (lu : Launch) (hl9 : lu.stackTraces = false) (Dg : va_G) (E : Nat → ClassId) (N : Nat) (G : Nat → Nat) (shp : Nat → (Nat → Int32) → va_E) (σ : Nat → Nat → Int32) (hS : StoodS E G shp N) (c : Nat → Int32) {kz : Nat} (hz : kz < 4) (y : Int32) (hy : ¬ (stLeast kz ≤ y ∧ y ≤ stMost kz)) : Thr lu yX5_set wsX5_set { frames := 7, cells := 1, slots := 6, locals := 160 } Dg E N G (φ shp (hs σ 1 c)) [.ref (G 0), .int (nI kz), .int y] "java/lang/IllegalArgumentException" := by
  refine Thr.of (cc := cX5_set) (maxL := 3) (ret := (some .int)) (by decide) rfl (Nat.le_of_ble_eq_true rfl) ?_
  intro p_ e_ s_ m_ args_ below_ meth_ c_ hX9 hex9
  refine v_eq (pc' := 0) (st' := []) rfl rfl ?_
  refine v_loc [0, 1, 2] [(0, .ref (G 0)), (1, .int (nI kz)), (2, .int y)] rfl ?_
  refine v_iload_n 1 dX5_set_0 rfl rfl ?_
  refine u_callSn [.int (nI kz)] [] 1 (c_X5_requireSetting lu Dg E N G shp (hs σ 1 c) (kz := kz) hz) gX5_set_X5_requireSetting rfl rfl rfl (by decide +kernel) rfl ⟨Nat.le_of_ble_eq_true rfl, Nat.le_of_ble_eq_true rfl⟩ ⟨Nat.le_of_ble_eq_true rfl, Nat.le_of_ble_eq_true rfl⟩ (Nat.le_of_ble_eq_true rfl) rfl dX5_set_1 ?_
  refine v_iload_n 2 dX5_set_4 rfl rfl ?_
  refine v_gets2 (by decide +kernel) dX5_set_5 (fun t2 ht2 => ?_)
  refine v_iload_n 1 dX5_set_8 rfl rfl ?_
  refine v_tld ht2 (by omega) (by decide) dX5_set_9 ?_
  refine v_icmp_lt 22 dX5_set_10 rfl (fun h10 => ?_) (fun h10 => ?_)
  · skip
    refine v_throwS (X := "java/lang/IllegalArgumentException") (names := ["java/lang/RuntimeException", "java/lang/Exception"]) hX9 hex9 hl9 rfl (by decide +kernel) (by decide +kernel) (by decide +kernel) (by decide +kernel) (strT_mem 188 (by decide +kernel)) (by decide +kernel) (by decide +kernel) (by decide +kernel) (by decide +kernel) dX5_set_22 dX5_set_25 dX5_set_26 dX5_set_28 dX5_set_31 (Nat.le_of_ble_eq_true rfl) (Nat.le_of_ble_eq_true rfl) (Nat.le_of_ble_eq_true rfl) (Nat.le_of_ble_eq_true rfl)
  · skip
    refine v_iload_n 2 dX5_set_13 rfl rfl ?_
    refine v_gets3 (by decide +kernel) dX5_set_14 (fun t3 ht3 => ?_)
    refine v_iload_n 1 dX5_set_17 rfl rfl ?_
    refine v_tld ht3 (by omega) (by decide) dX5_set_18 ?_
    refine v_icmp_le 32 dX5_set_19 rfl (fun h19 => ?_) (fun h19 => ?_)
    · skip
      exact absurd ⟨Int32.not_lt.mp h10, h19⟩ hy
    · skip
      refine v_throwS (X := "java/lang/IllegalArgumentException") (names := ["java/lang/RuntimeException", "java/lang/Exception"]) hX9 hex9 hl9 rfl (by decide +kernel) (by decide +kernel) (by decide +kernel) (by decide +kernel) (strT_mem 188 (by decide +kernel)) (by decide +kernel) (by decide +kernel) (by decide +kernel) (by decide +kernel) dX5_set_22 dX5_set_25 dX5_set_26 dX5_set_28 dX5_set_31 (Nat.le_of_ble_eq_true rfl) (Nat.le_of_ble_eq_true rfl) (Nat.le_of_ble_eq_true rfl) (Nat.le_of_ble_eq_true rfl)

set_option maxRecDepth 100000 in
theorem inX5_set_X5 : ∀ w ∈ wsX50, w ∈ wsX5_set := by decide +kernel
set_option maxHeartbeats 4000000 in
set_option maxRecDepth 100000 in
theorem c_X5_set_0 (lu : Launch) (Dg : va_G) (E : Nat → ClassId) (N : Nat) (G : Nat → Nat) (shp : Nat → (Nat → Int32) → va_E) (σ : Nat → Nat → Int32) (hS : StoodS E G shp N) (c : Nat → Int32) {kz : Nat} (hz : kz < 4) (y : Int32) (hy : stLeast kz ≤ y ∧ y ≤ stMost kz) {og rg : Nat} (hO : HistOk σ og rg)  : CS lu yX5_set wsX5_set { frames := 6, cells := 0, slots := 0, locals := 140 } Dg E N G shp (hs σ 1 c) [.ref (G 0), .int (nI kz), .int y] (some (.int (c (6 + kz)))) (hs (puH σ c og rg) 1 (upd c (6 + kz) y)) := by
  refine CS.of (cc := cX5_set) (maxL := 3) (ret := (some .int)) (by decide) rfl (Nat.le_of_ble_eq_true rfl) ?_
  intro p_ e_ s_ m_ args_ below_ meth_ c_
  refine v_eq (pc' := 0) (st' := []) rfl rfl ?_
  refine v_loc [0, 1, 2] [(0, .ref (G 0)), (1, .int (nI kz)), (2, .int y)] rfl ?_
  refine v_iload_n 1 dX5_set_0 rfl rfl ?_
  refine u_callSn [.int (nI kz)] [] 1 (c_X5_requireSetting lu Dg E N G shp (hs σ 1 c) (kz := kz) hz) gX5_set_X5_requireSetting rfl rfl rfl (by decide +kernel) rfl ⟨Nat.le_of_ble_eq_true rfl, Nat.le_of_ble_eq_true rfl⟩ ⟨Nat.le_of_ble_eq_true rfl, Nat.le_of_ble_eq_true rfl⟩ (Nat.le_of_ble_eq_true rfl) rfl dX5_set_1 ?_
  refine v_iload_n 2 dX5_set_4 rfl rfl ?_
  refine v_gets2 (by decide +kernel) dX5_set_5 (fun t2 ht2 => ?_)
  refine v_iload_n 1 dX5_set_8 rfl rfl ?_
  refine v_tld ht2 (by omega) (by decide) dX5_set_9 ?_
  refine v_icmp_lt 22 dX5_set_10 rfl (fun h10 => ?_) (fun h10 => ?_)
  · skip
    exact absurd h10 (Int32.not_lt.mpr hy.1)
  · skip
    refine v_iload_n 2 dX5_set_13 rfl rfl ?_
    refine v_gets3 (by decide +kernel) dX5_set_14 (fun t3 ht3 => ?_)
    refine v_iload_n 1 dX5_set_17 rfl rfl ?_
    refine v_tld ht3 (by omega) (by decide) dX5_set_18 ?_
    refine v_icmp_le 32 dX5_set_19 rfl (fun h19 => ?_) (fun h19 => ?_)
    · skip
      refine v_aload_n 0 dX5_set_32 rfl rfl ?_
      refine u_getr (k := 2) (C := RX5) (T := TX5) (NF := 6) hS.o.1 hS.o.2 rfl rfl inX5_set_X5 (by decide) (by decide +kernel) rfl dX5_set_33 ?_
      refine v_aload_n 0 dX5_set_36 rfl rfl ?_
      refine u_getr (k := 0) (C := RX5) (T := TX5) (NF := 6) hS.o.1 hS.o.2 rfl rfl inX5_set_X5 (by decide) (by decide +kernel) rfl dX5_set_37 ?_
      refine u_callVn [.ref (G 1)] [] 1 (c_rem lu Dg E N G shp σ hS c hO) (ci := 2) (C := RX2) (T := TX2) (NF := 3) (Nat.lt_of_succ_lt hS.y.1) hS.y.2.1 rfl gX5_set_X2_remember rfl rfl rfl (by decide +kernel) rfl ⟨Nat.le_of_ble_eq_true rfl, Nat.le_of_ble_eq_true rfl⟩ ⟨Nat.le_of_ble_eq_true rfl, Nat.le_of_ble_eq_true rfl⟩ (Nat.le_of_ble_eq_true rfl) rfl dX5_set_40 ?_
      refine v_aload_n 0 dX5_set_43 rfl rfl ?_
      refine u_getr (k := 0) (C := RX5) (T := TX5) (NF := 6) hS.o.1 hS.o.2 rfl rfl inX5_set_X5 (by decide) (by decide +kernel) rfl dX5_set_44 ?_
      refine v_iload_n 1 dX5_set_47 rfl rfl ?_
      refine v_iload_n 2 dX5_set_48 rfl rfl ?_
      refine u_callVv [.int (nI kz), .int y] [] 2 (c_X1_changeSetting lu Dg E N G shp (puH σ c og rg) hS.h c hz y) (ci := 1) (C := RX1) (T := TX1) (NF := 11) hS.h.n hS.h.s rfl gX5_set_X1_changeSetting rfl rfl rfl (by decide +kernel) rfl ⟨Nat.le_of_ble_eq_true rfl, Nat.le_of_ble_eq_true rfl⟩ ⟨Nat.le_of_ble_eq_true rfl, Nat.le_of_ble_eq_true rfl⟩ (Nat.le_of_ble_eq_true rfl) rfl dX5_set_49 ?_
      refine v_iret rfl dX5_set_52 ⟨congrArg (fun z => some (Value.int z)) ?_, congrArg (φ shp) ?_⟩
      · rfl
      · rfl
    · skip
      exact absurd hy.2 h19

set_option maxRecDepth 100000 in
theorem inX5_undo_X5 : ∀ w ∈ wsX50, w ∈ wsX5_undo := by decide +kernel
set_option maxHeartbeats 4000000 in
set_option maxRecDepth 100000 in
theorem c_X5_undo_x (lu : Launch) (hl9 : lu.stackTraces = false) (Dg : va_G) (E : Nat → ClassId) (N : Nat) (G : Nat → Nat) (shp : Nat → (Nat → Int32) → va_E) (σ : Nat → Nat → Int32) (hS : StoodS E G shp N) (c : Nat → Int32) (hr : σ 87 2 = nI 0) : Thr lu yX5_undo wsX5_undo { frames := 6, cells := 1, slots := 6, locals := 140 } Dg E N G (φ shp (hs σ 1 c)) [.ref (G 0)] "java/lang/IllegalStateException" := by
  refine Thr.of (cc := cX5_undo) (maxL := 1) (ret := (some .int)) (by decide) rfl (Nat.le_of_ble_eq_true rfl) ?_
  intro p_ e_ s_ m_ args_ below_ meth_ c_ hX9 hex9
  refine v_eq (pc' := 0) (st' := []) rfl rfl ?_
  refine v_loc [0] [(0, .ref (G 0))] rfl ?_
  refine v_aload_n 0 dX5_undo_0 rfl rfl ?_
  refine u_getr (k := 2) (C := RX5) (T := TX5) (NF := 6) hS.o.1 hS.o.2 rfl rfl inX5_undo_X5 (by decide) (by decide +kernel) rfl dX5_undo_1 ?_
  refine u_callVv [] [] 0 (c_X2_isEmpty lu Dg E N G shp (hs σ 1 c) hS.y (rz := 0) (by rw [hs_out (by omega)]; exact hr) (by omega)) (ci := 2) (C := RX2) (T := TX2) (NF := 3) (Nat.lt_of_succ_lt hS.y.1) hS.y.2.1 rfl gX5_undo_X2_isEmpty rfl rfl rfl (by decide +kernel) rfl ⟨Nat.le_of_ble_eq_true rfl, Nat.le_of_ble_eq_true rfl⟩ ⟨Nat.le_of_ble_eq_true rfl, Nat.le_of_ble_eq_true rfl⟩ (Nat.le_of_ble_eq_true rfl) rfl dX5_undo_4 ?_
  refine v_if_eqB 20 dX5_undo_7 rfl (fun h7 => ?_) (fun h7 => ?_)
  · skip
    exact absurd rfl h7
  · skip
    refine v_throwS (X := "java/lang/IllegalStateException") (names := ["java/lang/RuntimeException", "java/lang/Exception"]) hX9 hex9 hl9 rfl (by decide +kernel) (by decide +kernel) (by decide +kernel) (by decide +kernel) (strT_mem 196 (by decide +kernel)) (by decide +kernel) (by decide +kernel) (by decide +kernel) (by decide +kernel) dX5_undo_10 dX5_undo_13 dX5_undo_14 dX5_undo_16 dX5_undo_19 (Nat.le_of_ble_eq_true rfl) (Nat.le_of_ble_eq_true rfl) (Nat.le_of_ble_eq_true rfl) (Nat.le_of_ble_eq_true rfl)

set_option maxHeartbeats 4000000 in
set_option maxRecDepth 100000 in
theorem c_X5_undo_0 (lu : Launch) (Dg : va_G) (E : Nat → ClassId) (N : Nat) (G : Nat → Nat) (shp : Nat → (Nat → Int32) → va_E) (σ : Nat → Nat → Int32) (hS : StoodS E G shp N) (c : Nat → Int32)  (d : Nat → Int32) {og rg : Nat} (ho : σ 87 1 = nI og) (ho14 : og < 14) (hr : σ 87 2 = nI (rg + 1)) (hr14 : rg < 14) (hd : HoldsAt σ (87 + 2 + 43 * ((og + rg) % 14)) d)  : CS lu yX5_undo wsX5_undo { frames := 5, cells := 0, slots := 0, locals := 120 } Dg E N G shp (hs σ 1 c) [.ref (G 0)] (some (.int (nI rg))) (hs (st2 σ 87 2 (nI rg)) 1 d) := by
  refine CS.of (cc := cX5_undo) (maxL := 1) (ret := (some .int)) (by decide) rfl (Nat.le_of_ble_eq_true rfl) ?_
  intro p_ e_ s_ m_ args_ below_ meth_ c_
  refine v_eq (pc' := 0) (st' := []) rfl rfl ?_
  refine v_loc [0] [(0, .ref (G 0))] rfl ?_
  refine v_aload_n 0 dX5_undo_0 rfl rfl ?_
  refine u_getr (k := 2) (C := RX5) (T := TX5) (NF := 6) hS.o.1 hS.o.2 rfl rfl inX5_undo_X5 (by decide) (by decide +kernel) rfl dX5_undo_1 ?_
  refine u_callVv [] [] 0 (c_X2_isEmpty lu Dg E N G shp (hs σ 1 c) hS.y (rz := rg + 1) (by rw [hs_out (by omega)]; exact hr) (by omega)) (ci := 2) (C := RX2) (T := TX2) (NF := 3) (Nat.lt_of_succ_lt hS.y.1) hS.y.2.1 rfl gX5_undo_X2_isEmpty rfl rfl rfl (by decide +kernel) rfl ⟨Nat.le_of_ble_eq_true rfl, Nat.le_of_ble_eq_true rfl⟩ ⟨Nat.le_of_ble_eq_true rfl, Nat.le_of_ble_eq_true rfl⟩ (Nat.le_of_ble_eq_true rfl) rfl dX5_undo_4 ?_
  refine v_if_eqB 20 dX5_undo_7 rfl (fun h7 => ?_) (fun h7 => ?_)
  · skip
    refine v_aload_n 0 dX5_undo_20 rfl rfl ?_
    refine u_getr (k := 2) (C := RX5) (T := TX5) (NF := 6) hS.o.1 hS.o.2 rfl rfl inX5_undo_X5 (by decide) (by decide +kernel) rfl dX5_undo_21 ?_
    refine v_aload_n 0 dX5_undo_24 rfl rfl ?_
    refine u_getr (k := 0) (C := RX5) (T := TX5) (NF := 6) hS.o.1 hS.o.2 rfl rfl inX5_undo_X5 (by decide) (by decide +kernel) rfl dX5_undo_25 ?_
    refine u_callVv [.ref (G 1)] [] 1 (c_X2_takeBack lu Dg E N G shp σ hS.y hS.h c d ho ho14 hr hr14 (fun i _ => Or.inl (by omega)) (Or.inr (by omega)) hd) (ci := 2) (C := RX2) (T := TX2) (NF := 3) (Nat.lt_of_succ_lt hS.y.1) hS.y.2.1 rfl gX5_undo_X2_takeBack rfl rfl rfl (by decide +kernel) rfl ⟨Nat.le_of_ble_eq_true rfl, Nat.le_of_ble_eq_true rfl⟩ ⟨Nat.le_of_ble_eq_true rfl, Nat.le_of_ble_eq_true rfl⟩ (Nat.le_of_ble_eq_true rfl) rfl dX5_undo_28 ?_
    refine v_iret rfl dX5_undo_31 ⟨congrArg (fun z => some (Value.int z)) ?_, congrArg (φ shp) ?_⟩
    · rfl
    · rfl
  · skip
    exact absurd h7 (by omega)

set_option maxHeartbeats 4000000 in
set_option maxRecDepth 100000 in
theorem c_X5_save_x (lu : Launch) (hl9 : lu.stackTraces = false) (Dg : va_G) (E : Nat → ClassId) (N : Nat) (G : Nat → Nat) (shp : Nat → (Nat → Int32) → va_E) (σ : Nat → Nat → Int32) (hS : StoodS E G shp N) (c : Nat → Int32) (x : Int32) (hx : ¬ Rg 2 x) : Thr lu yX5_save wsX5_save { frames := 7, cells := 1, slots := 6, locals := 160 } Dg E N G (φ shp (hs σ 1 c)) [.ref (G 0), .int x] "java/lang/IndexOutOfBoundsException" := by
  refine Thr.of (cc := cX5_save) (maxL := 2) (ret := (some .int)) (by decide) rfl (Nat.le_of_ble_eq_true rfl) ?_
  intro p_ e_ s_ m_ args_ below_ meth_ c_ hX9 hex9
  refine v_eq (pc' := 0) (st' := []) rfl rfl ?_
  refine v_loc [0, 1] [(0, .ref (G 0)), (1, .int x)] rfl ?_
  refine v_iload_n 1 dX5_save_0 rfl rfl ?_
  refine v_thrS (As := [.int x]) (rest := []) hX9 hex9 (c_X5_requireSlot_x lu hl9 Dg E N G shp (hs σ 1 c) (x) hx) gX5_save_X5_requireSlot rfl rfl rfl ⟨by decide +kernel, by decide +kernel, Eq.trans (b := some 1) (by decide +kernel) rfl⟩ ⟨Nat.le_of_ble_eq_true rfl, Nat.le_of_ble_eq_true rfl⟩ ⟨Nat.le_of_ble_eq_true rfl, Nat.le_of_ble_eq_true rfl⟩ (Nat.le_of_ble_eq_true rfl) rfl dX5_save_1

set_option maxRecDepth 100000 in
theorem inX5_save_X1 : ∀ w ∈ wsX10, w ∈ wsX5_save := by decide +kernel
set_option maxRecDepth 100000 in
theorem inX5_save_X5 : ∀ w ∈ wsX50, w ∈ wsX5_save := by decide +kernel
set_option maxHeartbeats 4000000 in
set_option maxRecDepth 100000 in
theorem c_X5_save_0 (lu : Launch) (Dg : va_G) (E : Nat → ClassId) (N : Nat) (G : Nat → Nat) (shp : Nat → (Nat → Int32) → va_E) (σ : Nat → Nat → Int32) (hS : StoodS E G shp N) (c : Nat → Int32) {kz : Nat} (hz : kz < 2) (hSl : ∀ i, i < 2 → ∃ d, HoldsAt σ (692 + 43 * i) d)  : CS lu yX5_save wsX5_save { frames := 6, cells := 0, slots := 0, locals := 140 } Dg E N G shp (hs σ 1 c) [.ref (G 0), .int (nI kz)] (some (.int (c 0))) (hs (st2 (hs σ (692 + 43 * kz) c) 778 kz (nI 1)) 1 c) := by
  refine CS.of (cc := cX5_save) (maxL := 2) (ret := (some .int)) (by decide) rfl (Nat.le_of_ble_eq_true rfl) ?_
  intro p_ e_ s_ m_ args_ below_ meth_ c_
  refine v_eq (pc' := 0) (st' := []) rfl rfl ?_
  refine v_loc [0, 1] [(0, .ref (G 0)), (1, .int (nI kz))] rfl ?_
  obtain ⟨dz, hdz⟩ := hSl kz hz
  refine v_iload_n 1 dX5_save_0 rfl rfl ?_
  refine u_callSn [.int (nI kz)] [] 1 (c_X5_requireSlot lu Dg E N G shp (hs σ 1 c) (kz := kz) hz) gX5_save_X5_requireSlot rfl rfl rfl (by decide +kernel) rfl ⟨Nat.le_of_ble_eq_true rfl, Nat.le_of_ble_eq_true rfl⟩ ⟨Nat.le_of_ble_eq_true rfl, Nat.le_of_ble_eq_true rfl⟩ (Nat.le_of_ble_eq_true rfl) rfl dX5_save_1 ?_
  refine v_aload_n 0 dX5_save_4 rfl rfl ?_
  refine u_getr (k := 3) (C := RX5) (T := TX5) (NF := 6) hS.o.1 hS.o.2 rfl rfl inX5_save_X5 (by decide) (by decide +kernel) rfl dX5_save_5 ?_
  refine v_iload_n 1 dX5_save_8 rfl rfl ?_
  refine u_aald 6 kz hS.sl.1 hS.sl.2 rfl rfl (by omega) (by decide) dX5_save_9 ?_
  refine v_aload_n 0 dX5_save_10 rfl rfl ?_
  refine u_getr (k := 0) (C := RX5) (T := TX5) (NF := 6) hS.o.1 hS.o.2 rfl rfl inX5_save_X5 (by decide) (by decide +kernel) rfl dX5_save_11 ?_
  refine u_callVn [.ref (G 1)] [] 1 ((c_X1_copyFrom lu Dg E N G shp σ (b := 692 + 43 * kz) (hS.sh kz hz) (o := 1) hS.h (by omega) dz c).preS (by rw [hdz]) rfl) (ci := 1) (C := RX1) (T := TX1) (NF := 11) (hS.sh kz (by omega)).n (hS.sh kz (by omega)).s rfl gX5_save_X1_copyFrom rfl rfl rfl (by decide +kernel) rfl ⟨Nat.le_of_ble_eq_true rfl, Nat.le_of_ble_eq_true rfl⟩ ⟨Nat.le_of_ble_eq_true rfl, Nat.le_of_ble_eq_true rfl⟩ (Nat.le_of_ble_eq_true rfl) rfl dX5_save_14 ?_
  refine v_σ (hs (hs σ (692 + 43 * kz) c) 1 c) (hs_comm (by omega)) ?_
  refine v_aload_n 0 dX5_save_17 rfl rfl ?_
  refine u_getr (k := 4) (C := RX5) (T := TX5) (NF := 6) hS.o.1 hS.o.2 rfl rfl inX5_save_X5 (by decide) (by decide +kernel) rfl dX5_save_18 ?_
  refine v_iload_n 1 dX5_save_21 rfl rfl ?_
  refine v_iconst (nI 1) dX5_save_22 (by decide +kernel) ?_
  refine u_zast kz hS.fi.1 hS.fi.2 rfl (by omega) (by decide) (by decide +kernel) dX5_save_23 ?_
  generalize hσ1 : st2 (hs (hs σ (692 + 43 * kz) c) 1 c) 778 kz (nI 1) = σ1
  subst hσ1
  refine v_σ (hs (st2 (hs σ (692 + 43 * kz) c) 778 kz (nI 1)) 1 c) (st2_hs (by omega)) ?_
  refine v_aload_n 0 dX5_save_24 rfl rfl ?_
  refine u_getr (k := 0) (C := RX5) (T := TX5) (NF := 6) hS.o.1 hS.o.2 rfl rfl inX5_save_X5 (by decide) (by decide +kernel) rfl dX5_save_25 ?_
  refine u_geti (k := 2) (C := RX1) (T := TX1) (NF := 11) hS.h.n hS.h.s rfl rfl inX5_save_X1 (by decide) (by decide +kernel) rfl dX5_save_28 ?_
  refine v_topi (c 0) (((congrFun hs_b 2).trans (hF2 _))) ?_
  refine v_iret rfl dX5_save_31 ⟨congrArg (fun z => some (Value.int z)) ?_, congrArg (φ shp) ?_⟩
  · rfl
  · rfl

set_option maxHeartbeats 4000000 in
set_option maxRecDepth 100000 in
theorem c_X5_restore_x (lu : Launch) (hl9 : lu.stackTraces = false) (Dg : va_G) (E : Nat → ClassId) (N : Nat) (G : Nat → Nat) (shp : Nat → (Nat → Int32) → va_E) (σ : Nat → Nat → Int32) (hS : StoodS E G shp N) (c : Nat → Int32) (x : Int32) (hx : ¬ Rg 2 x) : Thr lu yX5_restore wsX5_restore { frames := 7, cells := 1, slots := 6, locals := 160 } Dg E N G (φ shp (hs σ 1 c)) [.ref (G 0), .int x] "java/lang/IndexOutOfBoundsException" := by
  refine Thr.of (cc := cX5_restore) (maxL := 2) (ret := (some .int)) (by decide) rfl (Nat.le_of_ble_eq_true rfl) ?_
  intro p_ e_ s_ m_ args_ below_ meth_ c_ hX9 hex9
  refine v_eq (pc' := 0) (st' := []) rfl rfl ?_
  refine v_loc [0, 1] [(0, .ref (G 0)), (1, .int x)] rfl ?_
  refine v_iload_n 1 dX5_restore_0 rfl rfl ?_
  refine v_thrS (As := [.int x]) (rest := []) hX9 hex9 (c_X5_requireSlot_x lu hl9 Dg E N G shp (hs σ 1 c) (x) hx) gX5_restore_X5_requireSlot rfl rfl rfl ⟨by decide +kernel, by decide +kernel, Eq.trans (b := some 1) (by decide +kernel) rfl⟩ ⟨Nat.le_of_ble_eq_true rfl, Nat.le_of_ble_eq_true rfl⟩ ⟨Nat.le_of_ble_eq_true rfl, Nat.le_of_ble_eq_true rfl⟩ (Nat.le_of_ble_eq_true rfl) rfl dX5_restore_1

set_option maxRecDepth 100000 in
theorem inX5_restore_X5 : ∀ w ∈ wsX50, w ∈ wsX5_restore := by decide +kernel
set_option maxHeartbeats 4000000 in
set_option maxRecDepth 100000 in
theorem c_X5_restore_y (lu : Launch) (hl9 : lu.stackTraces = false) (Dg : va_G) (E : Nat → ClassId) (N : Nat) (G : Nat → Nat) (shp : Nat → (Nat → Int32) → va_E) (σ : Nat → Nat → Int32) (hS : StoodS E G shp N) (c : Nat → Int32) {kz : Nat} (hz : kz < 2) (hfl : σ 778 kz = nI 0) : Thr lu yX5_restore wsX5_restore { frames := 7, cells := 1, slots := 6, locals := 160 } Dg E N G (φ shp (hs σ 1 c)) [.ref (G 0), .int (nI kz)] "java/lang/IllegalStateException" := by
  refine Thr.of (cc := cX5_restore) (maxL := 2) (ret := (some .int)) (by decide) rfl (Nat.le_of_ble_eq_true rfl) ?_
  intro p_ e_ s_ m_ args_ below_ meth_ c_ hX9 hex9
  refine v_eq (pc' := 0) (st' := []) rfl rfl ?_
  refine v_loc [0, 1] [(0, .ref (G 0)), (1, .int (nI kz))] rfl ?_
  refine v_iload_n 1 dX5_restore_0 rfl rfl ?_
  refine u_callSn [.int (nI kz)] [] 1 (c_X5_requireSlot lu Dg E N G shp (hs σ 1 c) (kz := kz) hz) gX5_restore_X5_requireSlot rfl rfl rfl (by decide +kernel) rfl ⟨Nat.le_of_ble_eq_true rfl, Nat.le_of_ble_eq_true rfl⟩ ⟨Nat.le_of_ble_eq_true rfl, Nat.le_of_ble_eq_true rfl⟩ (Nat.le_of_ble_eq_true rfl) rfl dX5_restore_1 ?_
  refine v_aload_n 0 dX5_restore_4 rfl rfl ?_
  refine u_getr (k := 4) (C := RX5) (T := TX5) (NF := 6) hS.o.1 hS.o.2 rfl rfl inX5_restore_X5 (by decide) (by decide +kernel) rfl dX5_restore_5 ?_
  refine v_iload_n 1 dX5_restore_8 rfl rfl ?_
  refine u_zald kz hS.fi.1 hS.fi.2 rfl (by omega) (by decide) dX5_restore_9 ?_
  refine v_topi (nI 0) ((by rw [hs_out (by omega)]; exact hfl)) ?_
  refine v_if_neN 24 (by omega) dX5_restore_10 rfl (fun h10 => ?_) (fun h10 => ?_)
  · skip
    omega
  · skip
    refine v_throwSW (X := "java/lang/IllegalStateException") (names := ["java/lang/RuntimeException", "java/lang/Exception"]) hX9 hex9 hl9 rfl (by decide +kernel) (by decide +kernel) (by decide +kernel) (by decide +kernel) (strT_mem 264 (by decide +kernel)) (by decide +kernel) (by decide +kernel) (by decide +kernel) (by decide +kernel) dX5_restore_13 dX5_restore_16 dX5_restore_17 dX5_restore_20 dX5_restore_23 (Nat.le_of_ble_eq_true rfl) (Nat.le_of_ble_eq_true rfl) (Nat.le_of_ble_eq_true rfl) (Nat.le_of_ble_eq_true rfl)

set_option maxRecDepth 100000 in
theorem inX5_restore_X1 : ∀ w ∈ wsX10, w ∈ wsX5_restore := by decide +kernel
set_option maxHeartbeats 4000000 in
set_option maxRecDepth 100000 in
theorem c_X5_restore_0 (lu : Launch) (Dg : va_G) (E : Nat → ClassId) (N : Nat) (G : Nat → Nat) (shp : Nat → (Nat → Int32) → va_E) (σ : Nat → Nat → Int32) (hS : StoodS E G shp N) (c : Nat → Int32) {kz : Nat} (hz : kz < 2) (d : Nat → Int32) (hfl : σ 778 kz = nI 1) (hd : HoldsAt σ (692 + 43 * kz) d)  : CS lu yX5_restore wsX5_restore { frames := 6, cells := 0, slots := 0, locals := 140 } Dg E N G shp (hs σ 1 c) [.ref (G 0), .int (nI kz)] (some (.int (d 0))) (hs (st2 (st2 σ 87 1 (nI 0)) 87 2 (nI 0)) 1 d) := by
  refine CS.of (cc := cX5_restore) (maxL := 2) (ret := (some .int)) (by decide) rfl (Nat.le_of_ble_eq_true rfl) ?_
  intro p_ e_ s_ m_ args_ below_ meth_ c_
  refine v_eq (pc' := 0) (st' := []) rfl rfl ?_
  refine v_loc [0, 1] [(0, .ref (G 0)), (1, .int (nI kz))] rfl ?_
  refine v_iload_n 1 dX5_restore_0 rfl rfl ?_
  refine u_callSn [.int (nI kz)] [] 1 (c_X5_requireSlot lu Dg E N G shp (hs σ 1 c) (kz := kz) hz) gX5_restore_X5_requireSlot rfl rfl rfl (by decide +kernel) rfl ⟨Nat.le_of_ble_eq_true rfl, Nat.le_of_ble_eq_true rfl⟩ ⟨Nat.le_of_ble_eq_true rfl, Nat.le_of_ble_eq_true rfl⟩ (Nat.le_of_ble_eq_true rfl) rfl dX5_restore_1 ?_
  refine v_aload_n 0 dX5_restore_4 rfl rfl ?_
  refine u_getr (k := 4) (C := RX5) (T := TX5) (NF := 6) hS.o.1 hS.o.2 rfl rfl inX5_restore_X5 (by decide) (by decide +kernel) rfl dX5_restore_5 ?_
  refine v_iload_n 1 dX5_restore_8 rfl rfl ?_
  refine u_zald kz hS.fi.1 hS.fi.2 rfl (by omega) (by decide) dX5_restore_9 ?_
  refine v_topi (nI 1) ((by rw [hs_out (by omega)]; exact hfl)) ?_
  refine v_if_neN 24 (by omega) dX5_restore_10 rfl (fun h10 => ?_) (fun h10 => ?_)
  · skip
    refine v_aload_n 0 dX5_restore_24 rfl rfl ?_
    refine u_getr (k := 0) (C := RX5) (T := TX5) (NF := 6) hS.o.1 hS.o.2 rfl rfl inX5_restore_X5 (by decide) (by decide +kernel) rfl dX5_restore_25 ?_
    refine v_aload_n 0 dX5_restore_28 rfl rfl ?_
    refine u_getr (k := 3) (C := RX5) (T := TX5) (NF := 6) hS.o.1 hS.o.2 rfl rfl inX5_restore_X5 (by decide) (by decide +kernel) rfl dX5_restore_29 ?_
    refine v_iload_n 1 dX5_restore_32 rfl rfl ?_
    refine u_aald 6 kz hS.sl.1 hS.sl.2 rfl rfl (by omega) (by decide) dX5_restore_33 ?_
    refine u_callVn [.ref (G (692 + 43 * kz))] [] 1 ((c_X1_copyFrom lu Dg E N G shp σ (b := 1) hS.h (o := 692 + 43 * kz) (hS.sh kz hz) (by omega) c d).preS (by rw [hs_comm (by omega), hd]) (by rw [hd])) (ci := 1) (C := RX1) (T := TX1) (NF := 11) hS.h.n hS.h.s rfl gX5_restore_X1_copyFrom rfl rfl rfl (by decide +kernel) rfl ⟨Nat.le_of_ble_eq_true rfl, Nat.le_of_ble_eq_true rfl⟩ ⟨Nat.le_of_ble_eq_true rfl, Nat.le_of_ble_eq_true rfl⟩ (Nat.le_of_ble_eq_true rfl) rfl dX5_restore_34 ?_
    refine v_aload_n 0 dX5_restore_37 rfl rfl ?_
    refine u_getr (k := 2) (C := RX5) (T := TX5) (NF := 6) hS.o.1 hS.o.2 rfl rfl inX5_restore_X5 (by decide) (by decide +kernel) rfl dX5_restore_38 ?_
    refine u_callVn [] [] 0 ((c_X2_forgetAll lu Dg E N G shp (hs σ 1 d) hS.y).preS rfl (by rw [st2_hs (by omega), st2_hs (by omega)])) (ci := 2) (C := RX2) (T := TX2) (NF := 3) (Nat.lt_of_succ_lt hS.y.1) hS.y.2.1 rfl gX5_restore_X2_forgetAll rfl rfl rfl (by decide +kernel) rfl ⟨Nat.le_of_ble_eq_true rfl, Nat.le_of_ble_eq_true rfl⟩ ⟨Nat.le_of_ble_eq_true rfl, Nat.le_of_ble_eq_true rfl⟩ (Nat.le_of_ble_eq_true rfl) rfl dX5_restore_41 ?_
    refine v_aload_n 0 dX5_restore_44 rfl rfl ?_
    refine u_getr (k := 0) (C := RX5) (T := TX5) (NF := 6) hS.o.1 hS.o.2 rfl rfl inX5_restore_X5 (by decide) (by decide +kernel) rfl dX5_restore_45 ?_
    refine u_geti (k := 2) (C := RX1) (T := TX1) (NF := 11) hS.h.n hS.h.s rfl rfl inX5_restore_X1 (by decide) (by decide +kernel) rfl dX5_restore_48 ?_
    refine v_topi (d 0) (((congrFun hs_b 2).trans (hF2 _))) ?_
    refine v_iret rfl dX5_restore_51 ⟨congrArg (fun z => some (Value.int z)) ?_, congrArg (φ shp) ?_⟩
    · rfl
    · rfl
  · skip
    omega
