set_option maxHeartbeats 4000000 in
set_option maxRecDepth 100000 in
/-- requireSetting -/
theorem c_X5_requireSetting (lu : Launch) (Dg : va_G) (E : Nat → ClassId) (N : Nat) (G : Nat → Nat) (shp : Nat → (Nat → Int32) → va_E) (σ : Nat → Nat → Int32)  {kz : Nat} (hz : kz < 4)  : CS lu yX5_requireSetting wsX5_requireSetting { frames := 5, cells := 0, slots := 0, locals := 120 } Dg E N G shp σ [.int (nI kz)] none σ := by
  refine CS.of (cc := cX5_requireSetting) (maxL := 1) (ret := none) (by decide) rfl (Nat.le_of_ble_eq_true rfl) ?_
  intro p_ e_ s_ m_ args_ below_ meth_ c_
  refine v_eq (pc' := 0) (st' := []) rfl rfl ?_
  refine v_loc [0] [(0, .int (nI kz))] rfl ?_
  refine v_iload_n 0 dX5_requireSetting_0 rfl rfl ?_
  refine v_if_ltN (by omega) dX5_requireSetting_1 ⟨9, rfl⟩ ?_
  refine v_iload_n 0 dX5_requireSetting_4 rfl rfl ?_
  refine v_iconst (nI 4) dX5_requireSetting_5 (by decide +kernel) ?_
  refine v_icmp_ltN 20 (by omega) (by omega) dX5_requireSetting_6 rfl (fun h6 => ?_) (fun h6 => ?_)
  · skip
    refine v_vret rfl dX5_requireSetting_20 ⟨rfl, congrArg (φ shp) ?_⟩
    · rfl
  · skip
    omega
set_option maxRecDepth 100000 in
theorem inX5_about_X5 : ∀ w ∈ wsX50, w ∈ wsX5_about := by decide +kernel
set_option maxHeartbeats 4000000 in
set_option maxRecDepth 100000 in
theorem c_X5_about_0_0 (lu : Launch) (Dg : va_G) (E : Nat → ClassId) (N : Nat) (G : Nat → Nat) (shp : Nat → (Nat → Int32) → va_E) (σ : Nat → Nat → Int32) (hS : StoodS E G shp N) (c : Nat → Int32) {T : Nat} (hI : Inv T c)  : CS lu yX5_about wsX5_about { frames := 5, cells := 0, slots := 0, locals := 120 } Dg E N G shp (hs σ 1 c) [.ref (G 0), .int (nI 0)] (some (.int (c 0))) (hs σ 1 c) := by
  refine CS.of (cc := cX5_about) (maxL := 2) (ret := (some .int)) (by decide) rfl (Nat.le_of_ble_eq_true rfl) ?_
  intro p_ e_ s_ m_ args_ below_ meth_ c_
  refine v_eq (pc' := 0) (st' := []) rfl rfl ?_
  refine v_loc [0, 1] [(0, .ref (G 0)), (1, .int (nI 0))] rfl ?_
  refine v_iload_n 1 dX5_about_0 rfl rfl ?_
  refine v_if_ltN (by omega) dX5_about_1 ⟨10, rfl⟩ ?_
  refine v_iload_n 1 dX5_about_4 rfl rfl ?_
  refine v_bipush (nI 9) dX5_about_5 (by decide +kernel) ?_
  refine v_icmp_leN 20 (by omega) (by omega) dX5_about_7 rfl (fun h7 => ?_) (fun h7 => ?_)
  · skip
    refine v_aload_n 0 dX5_about_20 rfl rfl ?_
    refine u_getr (k := 0) (C := RX5) (T := TX5) (NF := 6) hS.o.1 hS.o.2 rfl rfl inX5_about_X5 (by decide) (by decide +kernel) rfl dX5_about_21 ?_
    refine v_iload_n 1 dX5_about_24 rfl rfl ?_
    refine u_callVv [.int (nI 0)] [] 1 (c_X1_total_0 lu Dg E N G shp σ hS.h c hI) (ci := 1) (C := RX1) (T := TX1) (NF := 11) hS.h.n hS.h.s rfl gX5_about_X1_total rfl rfl rfl (by decide +kernel) rfl ⟨Nat.le_of_ble_eq_true rfl, Nat.le_of_ble_eq_true rfl⟩ ⟨Nat.le_of_ble_eq_true rfl, Nat.le_of_ble_eq_true rfl⟩ (Nat.le_of_ble_eq_true rfl) rfl dX5_about_25 ?_
    refine v_iret rfl dX5_about_28 ⟨congrArg (fun z => some (Value.int z)) ?_, congrArg (φ shp) ?_⟩
    · rfl
    · rfl
  · skip
    omega
set_option maxHeartbeats 4000000 in
set_option maxRecDepth 100000 in
theorem c_X5_about_0_1 (lu : Launch) (Dg : va_G) (E : Nat → ClassId) (N : Nat) (G : Nat → Nat) (shp : Nat → (Nat → Int32) → va_E) (σ : Nat → Nat → Int32) (hS : StoodS E G shp N) (c : Nat → Int32) {T : Nat} (hI : Inv T c)  : CS lu yX5_about wsX5_about { frames := 5, cells := 0, slots := 0, locals := 120 } Dg E N G shp (hs σ 1 c) [.ref (G 0), .int (nI 1)] (some (.int (c 1))) (hs σ 1 c) := by
  refine CS.of (cc := cX5_about) (maxL := 2) (ret := (some .int)) (by decide) rfl (Nat.le_of_ble_eq_true rfl) ?_
  intro p_ e_ s_ m_ args_ below_ meth_ c_
  refine v_eq (pc' := 0) (st' := []) rfl rfl ?_
  refine v_loc [0, 1] [(0, .ref (G 0)), (1, .int (nI 1))] rfl ?_
  refine v_iload_n 1 dX5_about_0 rfl rfl ?_
  refine v_if_ltN (by omega) dX5_about_1 ⟨10, rfl⟩ ?_
  refine v_iload_n 1 dX5_about_4 rfl rfl ?_
  refine v_bipush (nI 9) dX5_about_5 (by decide +kernel) ?_
  refine v_icmp_leN 20 (by omega) (by omega) dX5_about_7 rfl (fun h7 => ?_) (fun h7 => ?_)
  · skip
    refine v_aload_n 0 dX5_about_20 rfl rfl ?_
    refine u_getr (k := 0) (C := RX5) (T := TX5) (NF := 6) hS.o.1 hS.o.2 rfl rfl inX5_about_X5 (by decide) (by decide +kernel) rfl dX5_about_21 ?_
    refine v_iload_n 1 dX5_about_24 rfl rfl ?_
    refine u_callVv [.int (nI 1)] [] 1 (c_X1_total_1 lu Dg E N G shp σ hS.h c hI) (ci := 1) (C := RX1) (T := TX1) (NF := 11) hS.h.n hS.h.s rfl gX5_about_X1_total rfl rfl rfl (by decide +kernel) rfl ⟨Nat.le_of_ble_eq_true rfl, Nat.le_of_ble_eq_true rfl⟩ ⟨Nat.le_of_ble_eq_true rfl, Nat.le_of_ble_eq_true rfl⟩ (Nat.le_of_ble_eq_true rfl) rfl dX5_about_25 ?_
    refine v_iret rfl dX5_about_28 ⟨congrArg (fun z => some (Value.int z)) ?_, congrArg (φ shp) ?_⟩
    · rfl
    · rfl
  · skip
    omega
set_option maxHeartbeats 4000000 in
set_option maxRecDepth 100000 in
theorem c_X5_about_0_2 (lu : Launch) (Dg : va_G) (E : Nat → ClassId) (N : Nat) (G : Nat → Nat) (shp : Nat → (Nat → Int32) → va_E) (σ : Nat → Nat → Int32) (hS : StoodS E G shp N) (c : Nat → Int32) {T : Nat} (hI : Inv T c)  : CS lu yX5_about wsX5_about { frames := 5, cells := 0, slots := 0, locals := 120 } Dg E N G shp (hs σ 1 c) [.ref (G 0), .int (nI 2)] (some (.int (c 2))) (hs σ 1 c) := by
  refine CS.of (cc := cX5_about) (maxL := 2) (ret := (some .int)) (by decide) rfl (Nat.le_of_ble_eq_true rfl) ?_
  intro p_ e_ s_ m_ args_ below_ meth_ c_
  refine v_eq (pc' := 0) (st' := []) rfl rfl ?_
  refine v_loc [0, 1] [(0, .ref (G 0)), (1, .int (nI 2))] rfl ?_
  refine v_iload_n 1 dX5_about_0 rfl rfl ?_
  refine v_if_ltN (by omega) dX5_about_1 ⟨10, rfl⟩ ?_
  refine v_iload_n 1 dX5_about_4 rfl rfl ?_
  refine v_bipush (nI 9) dX5_about_5 (by decide +kernel) ?_
  refine v_icmp_leN 20 (by omega) (by omega) dX5_about_7 rfl (fun h7 => ?_) (fun h7 => ?_)
  · skip
    refine v_aload_n 0 dX5_about_20 rfl rfl ?_
    refine u_getr (k := 0) (C := RX5) (T := TX5) (NF := 6) hS.o.1 hS.o.2 rfl rfl inX5_about_X5 (by decide) (by decide +kernel) rfl dX5_about_21 ?_
    refine v_iload_n 1 dX5_about_24 rfl rfl ?_
    refine u_callVv [.int (nI 2)] [] 1 (c_X1_total_2 lu Dg E N G shp σ hS.h c hI) (ci := 1) (C := RX1) (T := TX1) (NF := 11) hS.h.n hS.h.s rfl gX5_about_X1_total rfl rfl rfl (by decide +kernel) rfl ⟨Nat.le_of_ble_eq_true rfl, Nat.le_of_ble_eq_true rfl⟩ ⟨Nat.le_of_ble_eq_true rfl, Nat.le_of_ble_eq_true rfl⟩ (Nat.le_of_ble_eq_true rfl) rfl dX5_about_25 ?_
    refine v_iret rfl dX5_about_28 ⟨congrArg (fun z => some (Value.int z)) ?_, congrArg (φ shp) ?_⟩
    · rfl
    · rfl
  · skip
    omega
set_option maxHeartbeats 4000000 in
set_option maxRecDepth 100000 in
theorem c_X5_about_0_3 (lu : Launch) (Dg : va_G) (E : Nat → ClassId) (N : Nat) (G : Nat → Nat) (shp : Nat → (Nat → Int32) → va_E) (σ : Nat → Nat → Int32) (hS : StoodS E G shp N) (c : Nat → Int32) {T : Nat} (hI : Inv T c)  : CS lu yX5_about wsX5_about { frames := 5, cells := 0, slots := 0, locals := 120 } Dg E N G shp (hs σ 1 c) [.ref (G 0), .int (nI 3)] (some (.int (nI (standN c (nI 0) (tn (c 2)))))) (hs σ 1 c) := by
  refine CS.of (cc := cX5_about) (maxL := 2) (ret := (some .int)) (by decide) rfl (Nat.le_of_ble_eq_true rfl) ?_
  intro p_ e_ s_ m_ args_ below_ meth_ c_
  refine v_eq (pc' := 0) (st' := []) rfl rfl ?_
  refine v_loc [0, 1] [(0, .ref (G 0)), (1, .int (nI 3))] rfl ?_
  refine v_iload_n 1 dX5_about_0 rfl rfl ?_
  refine v_if_ltN (by omega) dX5_about_1 ⟨10, rfl⟩ ?_
  refine v_iload_n 1 dX5_about_4 rfl rfl ?_
  refine v_bipush (nI 9) dX5_about_5 (by decide +kernel) ?_
  refine v_icmp_leN 20 (by omega) (by omega) dX5_about_7 rfl (fun h7 => ?_) (fun h7 => ?_)
  · skip
    refine v_aload_n 0 dX5_about_20 rfl rfl ?_
    refine u_getr (k := 0) (C := RX5) (T := TX5) (NF := 6) hS.o.1 hS.o.2 rfl rfl inX5_about_X5 (by decide) (by decide +kernel) rfl dX5_about_21 ?_
    refine v_iload_n 1 dX5_about_24 rfl rfl ?_
    refine u_callVv [.int (nI 3)] [] 1 (c_X1_total_3 lu Dg E N G shp σ hS.h c hI) (ci := 1) (C := RX1) (T := TX1) (NF := 11) hS.h.n hS.h.s rfl gX5_about_X1_total rfl rfl rfl (by decide +kernel) rfl ⟨Nat.le_of_ble_eq_true rfl, Nat.le_of_ble_eq_true rfl⟩ ⟨Nat.le_of_ble_eq_true rfl, Nat.le_of_ble_eq_true rfl⟩ (Nat.le_of_ble_eq_true rfl) rfl dX5_about_25 ?_
    refine v_iret rfl dX5_about_28 ⟨congrArg (fun z => some (Value.int z)) ?_, congrArg (φ shp) ?_⟩
    · rfl
    · rfl
  · skip
    omega
set_option maxHeartbeats 4000000 in
set_option maxRecDepth 100000 in
theorem c_X5_about_0_4 (lu : Launch) (Dg : va_G) (E : Nat → ClassId) (N : Nat) (G : Nat → Nat) (shp : Nat → (Nat → Int32) → va_E) (σ : Nat → Nat → Int32) (hS : StoodS E G shp N) (c : Nat → Int32) {T : Nat} (hI : Inv T c)  : CS lu yX5_about wsX5_about { frames := 5, cells := 0, slots := 0, locals := 120 } Dg E N G shp (hs σ 1 c) [.ref (G 0), .int (nI 4)] (some (.int (nI (standN c (nI 1) (tn (c 2)))))) (hs σ 1 c) := by
  refine CS.of (cc := cX5_about) (maxL := 2) (ret := (some .int)) (by decide) rfl (Nat.le_of_ble_eq_true rfl) ?_
  intro p_ e_ s_ m_ args_ below_ meth_ c_
  refine v_eq (pc' := 0) (st' := []) rfl rfl ?_
  refine v_loc [0, 1] [(0, .ref (G 0)), (1, .int (nI 4))] rfl ?_
  refine v_iload_n 1 dX5_about_0 rfl rfl ?_
  refine v_if_ltN (by omega) dX5_about_1 ⟨10, rfl⟩ ?_
  refine v_iload_n 1 dX5_about_4 rfl rfl ?_
  refine v_bipush (nI 9) dX5_about_5 (by decide +kernel) ?_
  refine v_icmp_leN 20 (by omega) (by omega) dX5_about_7 rfl (fun h7 => ?_) (fun h7 => ?_)
  · skip
    refine v_aload_n 0 dX5_about_20 rfl rfl ?_
    refine u_getr (k := 0) (C := RX5) (T := TX5) (NF := 6) hS.o.1 hS.o.2 rfl rfl inX5_about_X5 (by decide) (by decide +kernel) rfl dX5_about_21 ?_
    refine v_iload_n 1 dX5_about_24 rfl rfl ?_
    refine u_callVv [.int (nI 4)] [] 1 (c_X1_total_4 lu Dg E N G shp σ hS.h c hI) (ci := 1) (C := RX1) (T := TX1) (NF := 11) hS.h.n hS.h.s rfl gX5_about_X1_total rfl rfl rfl (by decide +kernel) rfl ⟨Nat.le_of_ble_eq_true rfl, Nat.le_of_ble_eq_true rfl⟩ ⟨Nat.le_of_ble_eq_true rfl, Nat.le_of_ble_eq_true rfl⟩ (Nat.le_of_ble_eq_true rfl) rfl dX5_about_25 ?_
    refine v_iret rfl dX5_about_28 ⟨congrArg (fun z => some (Value.int z)) ?_, congrArg (φ shp) ?_⟩
    · rfl
    · rfl
  · skip
    omega
set_option maxHeartbeats 4000000 in
set_option maxRecDepth 100000 in
theorem c_X5_about_0_5 (lu : Launch) (Dg : va_G) (E : Nat → ClassId) (N : Nat) (G : Nat → Nat) (shp : Nat → (Nat → Int32) → va_E) (σ : Nat → Nat → Int32) (hS : StoodS E G shp N) (c : Nat → Int32) {T : Nat} (hI : Inv T c)  : CS lu yX5_about wsX5_about { frames := 5, cells := 0, slots := 0, locals := 120 } Dg E N G shp (hs σ 1 c) [.ref (G 0), .int (nI 5)] (some (.int (nI (standN c (nI 2) (tn (c 2)))))) (hs σ 1 c) := by
  refine CS.of (cc := cX5_about) (maxL := 2) (ret := (some .int)) (by decide) rfl (Nat.le_of_ble_eq_true rfl) ?_
  intro p_ e_ s_ m_ args_ below_ meth_ c_
  refine v_eq (pc' := 0) (st' := []) rfl rfl ?_
  refine v_loc [0, 1] [(0, .ref (G 0)), (1, .int (nI 5))] rfl ?_
  refine v_iload_n 1 dX5_about_0 rfl rfl ?_
  refine v_if_ltN (by omega) dX5_about_1 ⟨10, rfl⟩ ?_
  refine v_iload_n 1 dX5_about_4 rfl rfl ?_
  refine v_bipush (nI 9) dX5_about_5 (by decide +kernel) ?_
  refine v_icmp_leN 20 (by omega) (by omega) dX5_about_7 rfl (fun h7 => ?_) (fun h7 => ?_)
  · skip
    refine v_aload_n 0 dX5_about_20 rfl rfl ?_
    refine u_getr (k := 0) (C := RX5) (T := TX5) (NF := 6) hS.o.1 hS.o.2 rfl rfl inX5_about_X5 (by decide) (by decide +kernel) rfl dX5_about_21 ?_
    refine v_iload_n 1 dX5_about_24 rfl rfl ?_
    refine u_callVv [.int (nI 5)] [] 1 (c_X1_total_5 lu Dg E N G shp σ hS.h c hI) (ci := 1) (C := RX1) (T := TX1) (NF := 11) hS.h.n hS.h.s rfl gX5_about_X1_total rfl rfl rfl (by decide +kernel) rfl ⟨Nat.le_of_ble_eq_true rfl, Nat.le_of_ble_eq_true rfl⟩ ⟨Nat.le_of_ble_eq_true rfl, Nat.le_of_ble_eq_true rfl⟩ (Nat.le_of_ble_eq_true rfl) rfl dX5_about_25 ?_
    refine v_iret rfl dX5_about_28 ⟨congrArg (fun z => some (Value.int z)) ?_, congrArg (φ shp) ?_⟩
    · rfl
    · rfl
  · skip
    omega
set_option maxHeartbeats 4000000 in
set_option maxRecDepth 100000 in
theorem c_X5_about_0_6 (lu : Launch) (Dg : va_G) (E : Nat → ClassId) (N : Nat) (G : Nat → Nat) (shp : Nat → (Nat → Int32) → va_E) (σ : Nat → Nat → Int32) (hS : StoodS E G shp N) (c : Nat → Int32) {T : Nat} (hI : Inv T c)  : CS lu yX5_about wsX5_about { frames := 5, cells := 0, slots := 0, locals := 120 } Dg E N G shp (hs σ 1 c) [.ref (G 0), .int (nI 6)] (some (.int (c 3))) (hs σ 1 c) := by
  refine CS.of (cc := cX5_about) (maxL := 2) (ret := (some .int)) (by decide) rfl (Nat.le_of_ble_eq_true rfl) ?_
  intro p_ e_ s_ m_ args_ below_ meth_ c_
  refine v_eq (pc' := 0) (st' := []) rfl rfl ?_
  refine v_loc [0, 1] [(0, .ref (G 0)), (1, .int (nI 6))] rfl ?_
  refine v_iload_n 1 dX5_about_0 rfl rfl ?_
  refine v_if_ltN (by omega) dX5_about_1 ⟨10, rfl⟩ ?_
  refine v_iload_n 1 dX5_about_4 rfl rfl ?_
  refine v_bipush (nI 9) dX5_about_5 (by decide +kernel) ?_
  refine v_icmp_leN 20 (by omega) (by omega) dX5_about_7 rfl (fun h7 => ?_) (fun h7 => ?_)
  · skip
    refine v_aload_n 0 dX5_about_20 rfl rfl ?_
    refine u_getr (k := 0) (C := RX5) (T := TX5) (NF := 6) hS.o.1 hS.o.2 rfl rfl inX5_about_X5 (by decide) (by decide +kernel) rfl dX5_about_21 ?_
    refine v_iload_n 1 dX5_about_24 rfl rfl ?_
    refine u_callVv [.int (nI 6)] [] 1 (c_X1_total_6 lu Dg E N G shp σ hS.h c hI) (ci := 1) (C := RX1) (T := TX1) (NF := 11) hS.h.n hS.h.s rfl gX5_about_X1_total rfl rfl rfl (by decide +kernel) rfl ⟨Nat.le_of_ble_eq_true rfl, Nat.le_of_ble_eq_true rfl⟩ ⟨Nat.le_of_ble_eq_true rfl, Nat.le_of_ble_eq_true rfl⟩ (Nat.le_of_ble_eq_true rfl) rfl dX5_about_25 ?_
    refine v_iret rfl dX5_about_28 ⟨congrArg (fun z => some (Value.int z)) ?_, congrArg (φ shp) ?_⟩
    · rfl
    · rfl
  · skip
    omega
set_option maxHeartbeats 4000000 in
set_option maxRecDepth 100000 in
theorem c_X5_about_0_7 (lu : Launch) (Dg : va_G) (E : Nat → ClassId) (N : Nat) (G : Nat → Nat) (shp : Nat → (Nat → Int32) → va_E) (σ : Nat → Nat → Int32) (hS : StoodS E G shp N) (c : Nat → Int32) {T : Nat} (hI : Inv T c)  : CS lu yX5_about wsX5_about { frames := 5, cells := 0, slots := 0, locals := 120 } Dg E N G shp (hs σ 1 c) [.ref (G 0), .int (nI 7)] (some (.int (c 4))) (hs σ 1 c) := by
  refine CS.of (cc := cX5_about) (maxL := 2) (ret := (some .int)) (by decide) rfl (Nat.le_of_ble_eq_true rfl) ?_
  intro p_ e_ s_ m_ args_ below_ meth_ c_
  refine v_eq (pc' := 0) (st' := []) rfl rfl ?_
  refine v_loc [0, 1] [(0, .ref (G 0)), (1, .int (nI 7))] rfl ?_
  refine v_iload_n 1 dX5_about_0 rfl rfl ?_
  refine v_if_ltN (by omega) dX5_about_1 ⟨10, rfl⟩ ?_
  refine v_iload_n 1 dX5_about_4 rfl rfl ?_
  refine v_bipush (nI 9) dX5_about_5 (by decide +kernel) ?_
  refine v_icmp_leN 20 (by omega) (by omega) dX5_about_7 rfl (fun h7 => ?_) (fun h7 => ?_)
  · skip
    refine v_aload_n 0 dX5_about_20 rfl rfl ?_
    refine u_getr (k := 0) (C := RX5) (T := TX5) (NF := 6) hS.o.1 hS.o.2 rfl rfl inX5_about_X5 (by decide) (by decide +kernel) rfl dX5_about_21 ?_
    refine v_iload_n 1 dX5_about_24 rfl rfl ?_
    refine u_callVv [.int (nI 7)] [] 1 (c_X1_total_7 lu Dg E N G shp σ hS.h c hI) (ci := 1) (C := RX1) (T := TX1) (NF := 11) hS.h.n hS.h.s rfl gX5_about_X1_total rfl rfl rfl (by decide +kernel) rfl ⟨Nat.le_of_ble_eq_true rfl, Nat.le_of_ble_eq_true rfl⟩ ⟨Nat.le_of_ble_eq_true rfl, Nat.le_of_ble_eq_true rfl⟩ (Nat.le_of_ble_eq_true rfl) rfl dX5_about_25 ?_
    refine v_iret rfl dX5_about_28 ⟨congrArg (fun z => some (Value.int z)) ?_, congrArg (φ shp) ?_⟩
    · rfl
    · rfl
  · skip
    omega
set_option maxHeartbeats 4000000 in
set_option maxRecDepth 100000 in
theorem c_X5_about_0_8 (lu : Launch) (Dg : va_G) (E : Nat → ClassId) (N : Nat) (G : Nat → Nat) (shp : Nat → (Nat → Int32) → va_E) (σ : Nat → Nat → Int32) (hS : StoodS E G shp N) (c : Nat → Int32) {T : Nat} (hI : Inv T c)  : CS lu yX5_about wsX5_about { frames := 5, cells := 0, slots := 0, locals := 120 } Dg E N G shp (hs σ 1 c) [.ref (G 0), .int (nI 8)] (some (.int (c 5))) (hs σ 1 c) := by
  refine CS.of (cc := cX5_about) (maxL := 2) (ret := (some .int)) (by decide) rfl (Nat.le_of_ble_eq_true rfl) ?_
  intro p_ e_ s_ m_ args_ below_ meth_ c_
  refine v_eq (pc' := 0) (st' := []) rfl rfl ?_
  refine v_loc [0, 1] [(0, .ref (G 0)), (1, .int (nI 8))] rfl ?_
  refine v_iload_n 1 dX5_about_0 rfl rfl ?_
  refine v_if_ltN (by omega) dX5_about_1 ⟨10, rfl⟩ ?_
  refine v_iload_n 1 dX5_about_4 rfl rfl ?_
  refine v_bipush (nI 9) dX5_about_5 (by decide +kernel) ?_
  refine v_icmp_leN 20 (by omega) (by omega) dX5_about_7 rfl (fun h7 => ?_) (fun h7 => ?_)
  · skip
    refine v_aload_n 0 dX5_about_20 rfl rfl ?_
    refine u_getr (k := 0) (C := RX5) (T := TX5) (NF := 6) hS.o.1 hS.o.2 rfl rfl inX5_about_X5 (by decide) (by decide +kernel) rfl dX5_about_21 ?_
    refine v_iload_n 1 dX5_about_24 rfl rfl ?_
    refine u_callVv [.int (nI 8)] [] 1 (c_X1_total_8 lu Dg E N G shp σ hS.h c hI) (ci := 1) (C := RX1) (T := TX1) (NF := 11) hS.h.n hS.h.s rfl gX5_about_X1_total rfl rfl rfl (by decide +kernel) rfl ⟨Nat.le_of_ble_eq_true rfl, Nat.le_of_ble_eq_true rfl⟩ ⟨Nat.le_of_ble_eq_true rfl, Nat.le_of_ble_eq_true rfl⟩ (Nat.le_of_ble_eq_true rfl) rfl dX5_about_25 ?_
    refine v_iret rfl dX5_about_28 ⟨congrArg (fun z => some (Value.int z)) ?_, congrArg (φ shp) ?_⟩
    · rfl
    · rfl
  · skip
    omega
set_option maxHeartbeats 4000000 in
set_option maxRecDepth 100000 in
theorem c_X5_about_0_9 (lu : Launch) (Dg : va_G) (E : Nat → ClassId) (N : Nat) (G : Nat → Nat) (shp : Nat → (Nat → Int32) → va_E) (σ : Nat → Nat → Int32) (hS : StoodS E G shp N) (c : Nat → Int32) {T : Nat} (hI : Inv T c)  : CS lu yX5_about wsX5_about { frames := 5, cells := 0, slots := 0, locals := 120 } Dg E N G shp (hs σ 1 c) [.ref (G 0), .int (nI 9)] (some (.int (accN c (tn (c 2))))) (hs σ 1 c) := by
  refine CS.of (cc := cX5_about) (maxL := 2) (ret := (some .int)) (by decide) rfl (Nat.le_of_ble_eq_true rfl) ?_
  intro p_ e_ s_ m_ args_ below_ meth_ c_
  refine v_eq (pc' := 0) (st' := []) rfl rfl ?_
  refine v_loc [0, 1] [(0, .ref (G 0)), (1, .int (nI 9))] rfl ?_
  refine v_iload_n 1 dX5_about_0 rfl rfl ?_
  refine v_if_ltN (by omega) dX5_about_1 ⟨10, rfl⟩ ?_
  refine v_iload_n 1 dX5_about_4 rfl rfl ?_
  refine v_bipush (nI 9) dX5_about_5 (by decide +kernel) ?_
  refine v_icmp_leN 20 (by omega) (by omega) dX5_about_7 rfl (fun h7 => ?_) (fun h7 => ?_)
  · skip
    refine v_aload_n 0 dX5_about_20 rfl rfl ?_
    refine u_getr (k := 0) (C := RX5) (T := TX5) (NF := 6) hS.o.1 hS.o.2 rfl rfl inX5_about_X5 (by decide) (by decide +kernel) rfl dX5_about_21 ?_
    refine v_iload_n 1 dX5_about_24 rfl rfl ?_
    refine u_callVv [.int (nI 9)] [] 1 (c_X1_total_9 lu Dg E N G shp σ hS.h c hI) (ci := 1) (C := RX1) (T := TX1) (NF := 11) hS.h.n hS.h.s rfl gX5_about_X1_total rfl rfl rfl (by decide +kernel) rfl ⟨Nat.le_of_ble_eq_true rfl, Nat.le_of_ble_eq_true rfl⟩ ⟨Nat.le_of_ble_eq_true rfl, Nat.le_of_ble_eq_true rfl⟩ (Nat.le_of_ble_eq_true rfl) rfl dX5_about_25 ?_
    refine v_iret rfl dX5_about_28 ⟨congrArg (fun z => some (Value.int z)) ?_, congrArg (φ shp) ?_⟩
    · rfl
    · rfl
  · skip
    omega
set_option maxRecDepth 100000 in
theorem inX5_line_X5 : ∀ w ∈ wsX50, w ∈ wsX5_line := by decide +kernel
set_option maxHeartbeats 4000000 in
set_option maxRecDepth 100000 in
theorem c_X5_line_0_0 (lu : Launch) (Dg : va_G) (E : Nat → ClassId) (N : Nat) (G : Nat → Nat) (shp : Nat → (Nat → Int32) → va_E) (σ : Nat → Nat → Int32) (hS : StoodS E G shp N) (c : Nat → Int32) {T : Nat} (hI : Inv T c) {lz : Nat} (hz : lz < tn (c 1))  : CS lu yX5_line wsX5_line { frames := 6, cells := 0, slots := 0, locals := 141 } Dg E N G shp (hs σ 1 c) [.ref (G 0), .int (nI lz), .int (nI 0)] (some (.int (c (10 + lz)))) (hs σ 1 c) := by
  refine CS.of (cc := cX5_line) (maxL := 3) (ret := (some .int)) (by decide) rfl (Nat.le_of_ble_eq_true rfl) ?_
  intro p_ e_ s_ m_ args_ below_ meth_ c_
  refine v_eq (pc' := 0) (st' := []) rfl rfl ?_
  refine v_loc [0, 1, 2] [(0, .ref (G 0)), (1, .int (nI lz)), (2, .int (nI 0))] rfl ?_
  refine v_aload_n 0 dX5_line_0 rfl rfl ?_
  refine v_iload_n 1 dX5_line_1 rfl rfl ?_
  refine u_callVn [.int (nI lz)] [] 1 (c_X5_requireLine lu Dg E N G shp σ hS c hI (lz := lz) hz) (ci := 5) (C := RX5) (T := TX5) (NF := 6) hS.o.1 hS.o.2 rfl gX5_line_X5_requireLine rfl rfl rfl (by decide +kernel) rfl ⟨Nat.le_of_ble_eq_true rfl, Nat.le_of_ble_eq_true rfl⟩ ⟨Nat.le_of_ble_eq_true rfl, Nat.le_of_ble_eq_true rfl⟩ (Nat.le_of_ble_eq_true rfl) rfl dX5_line_2 ?_
  refine v_iload_n 2 dX5_line_5 rfl rfl ?_
  refine v_if_ltN (by omega) dX5_line_6 ⟨14, rfl⟩ ?_
  refine v_iload_n 2 dX5_line_9 rfl rfl ?_
  refine v_iconst (nI 4) dX5_line_10 (by decide +kernel) ?_
  refine v_icmp_leN 24 (by omega) (by omega) dX5_line_11 rfl (fun h11 => ?_) (fun h11 => ?_)
  · skip
    refine v_aload_n 0 dX5_line_24 rfl rfl ?_
    refine u_getr (k := 0) (C := RX5) (T := TX5) (NF := 6) hS.o.1 hS.o.2 rfl rfl inX5_line_X5 (by decide) (by decide +kernel) rfl dX5_line_25 ?_
    refine v_iload_n 1 dX5_line_28 rfl rfl ?_
    refine v_iload_n 2 dX5_line_29 rfl rfl ?_
    refine u_callVv [.int (nI lz), .int (nI 0)] [] 2 (c_X1_numberOfLine_0 lu Dg E N G shp σ hS.h c hI (l := lz) hz) (ci := 1) (C := RX1) (T := TX1) (NF := 11) hS.h.n hS.h.s rfl gX5_line_X1_numberOfLine rfl rfl rfl (by decide +kernel) rfl ⟨Nat.le_of_ble_eq_true rfl, Nat.le_of_ble_eq_true rfl⟩ ⟨Nat.le_of_ble_eq_true rfl, Nat.le_of_ble_eq_true rfl⟩ (Nat.le_of_ble_eq_true rfl) rfl dX5_line_30 ?_
    refine v_iret rfl dX5_line_33 ⟨congrArg (fun z => some (Value.int z)) ?_, congrArg (φ shp) ?_⟩
    · rfl
    · rfl
  · skip
    omega
set_option maxHeartbeats 4000000 in
set_option maxRecDepth 100000 in
theorem c_X5_line_0_1 (lu : Launch) (Dg : va_G) (E : Nat → ClassId) (N : Nat) (G : Nat → Nat) (shp : Nat → (Nat → Int32) → va_E) (σ : Nat → Nat → Int32) (hS : StoodS E G shp N) (c : Nat → Int32) {T : Nat} (hI : Inv T c) {lz : Nat} (hz : lz < tn (c 1))  : CS lu yX5_line wsX5_line { frames := 6, cells := 0, slots := 0, locals := 141 } Dg E N G shp (hs σ 1 c) [.ref (G 0), .int (nI lz), .int (nI 1)] (some (.int (c (13 + lz)))) (hs σ 1 c) := by
  refine CS.of (cc := cX5_line) (maxL := 3) (ret := (some .int)) (by decide) rfl (Nat.le_of_ble_eq_true rfl) ?_
  intro p_ e_ s_ m_ args_ below_ meth_ c_
  refine v_eq (pc' := 0) (st' := []) rfl rfl ?_
  refine v_loc [0, 1, 2] [(0, .ref (G 0)), (1, .int (nI lz)), (2, .int (nI 1))] rfl ?_
  refine v_aload_n 0 dX5_line_0 rfl rfl ?_
  refine v_iload_n 1 dX5_line_1 rfl rfl ?_
  refine u_callVn [.int (nI lz)] [] 1 (c_X5_requireLine lu Dg E N G shp σ hS c hI (lz := lz) hz) (ci := 5) (C := RX5) (T := TX5) (NF := 6) hS.o.1 hS.o.2 rfl gX5_line_X5_requireLine rfl rfl rfl (by decide +kernel) rfl ⟨Nat.le_of_ble_eq_true rfl, Nat.le_of_ble_eq_true rfl⟩ ⟨Nat.le_of_ble_eq_true rfl, Nat.le_of_ble_eq_true rfl⟩ (Nat.le_of_ble_eq_true rfl) rfl dX5_line_2 ?_
  refine v_iload_n 2 dX5_line_5 rfl rfl ?_
  refine v_if_ltN (by omega) dX5_line_6 ⟨14, rfl⟩ ?_
  refine v_iload_n 2 dX5_line_9 rfl rfl ?_
  refine v_iconst (nI 4) dX5_line_10 (by decide +kernel) ?_
  refine v_icmp_leN 24 (by omega) (by omega) dX5_line_11 rfl (fun h11 => ?_) (fun h11 => ?_)
  · skip
    refine v_aload_n 0 dX5_line_24 rfl rfl ?_
    refine u_getr (k := 0) (C := RX5) (T := TX5) (NF := 6) hS.o.1 hS.o.2 rfl rfl inX5_line_X5 (by decide) (by decide +kernel) rfl dX5_line_25 ?_
    refine v_iload_n 1 dX5_line_28 rfl rfl ?_
    refine v_iload_n 2 dX5_line_29 rfl rfl ?_
    refine u_callVv [.int (nI lz), .int (nI 1)] [] 2 (c_X1_numberOfLine_1 lu Dg E N G shp σ hS.h c hI (l := lz) hz) (ci := 1) (C := RX1) (T := TX1) (NF := 11) hS.h.n hS.h.s rfl gX5_line_X1_numberOfLine rfl rfl rfl (by decide +kernel) rfl ⟨Nat.le_of_ble_eq_true rfl, Nat.le_of_ble_eq_true rfl⟩ ⟨Nat.le_of_ble_eq_true rfl, Nat.le_of_ble_eq_true rfl⟩ (Nat.le_of_ble_eq_true rfl) rfl dX5_line_30 ?_
    refine v_iret rfl dX5_line_33 ⟨congrArg (fun z => some (Value.int z)) ?_, congrArg (φ shp) ?_⟩
    · rfl
    · rfl
  · skip
    omega
set_option maxHeartbeats 4000000 in
set_option maxRecDepth 100000 in
theorem c_X5_line_0_2 (lu : Launch) (Dg : va_G) (E : Nat → ClassId) (N : Nat) (G : Nat → Nat) (shp : Nat → (Nat → Int32) → va_E) (σ : Nat → Nat → Int32) (hS : StoodS E G shp N) (c : Nat → Int32) {T : Nat} (hI : Inv T c) {lz : Nat} (hz : lz < tn (c 1))  : CS lu yX5_line wsX5_line { frames := 6, cells := 0, slots := 0, locals := 141 } Dg E N G shp (hs σ 1 c) [.ref (G 0), .int (nI lz), .int (nI 2)] (some (.int (c (16 + lz)))) (hs σ 1 c) := by
  refine CS.of (cc := cX5_line) (maxL := 3) (ret := (some .int)) (by decide) rfl (Nat.le_of_ble_eq_true rfl) ?_
  intro p_ e_ s_ m_ args_ below_ meth_ c_
  refine v_eq (pc' := 0) (st' := []) rfl rfl ?_
  refine v_loc [0, 1, 2] [(0, .ref (G 0)), (1, .int (nI lz)), (2, .int (nI 2))] rfl ?_
  refine v_aload_n 0 dX5_line_0 rfl rfl ?_
  refine v_iload_n 1 dX5_line_1 rfl rfl ?_
  refine u_callVn [.int (nI lz)] [] 1 (c_X5_requireLine lu Dg E N G shp σ hS c hI (lz := lz) hz) (ci := 5) (C := RX5) (T := TX5) (NF := 6) hS.o.1 hS.o.2 rfl gX5_line_X5_requireLine rfl rfl rfl (by decide +kernel) rfl ⟨Nat.le_of_ble_eq_true rfl, Nat.le_of_ble_eq_true rfl⟩ ⟨Nat.le_of_ble_eq_true rfl, Nat.le_of_ble_eq_true rfl⟩ (Nat.le_of_ble_eq_true rfl) rfl dX5_line_2 ?_
  refine v_iload_n 2 dX5_line_5 rfl rfl ?_
  refine v_if_ltN (by omega) dX5_line_6 ⟨14, rfl⟩ ?_
  refine v_iload_n 2 dX5_line_9 rfl rfl ?_
  refine v_iconst (nI 4) dX5_line_10 (by decide +kernel) ?_
  refine v_icmp_leN 24 (by omega) (by omega) dX5_line_11 rfl (fun h11 => ?_) (fun h11 => ?_)
  · skip
    refine v_aload_n 0 dX5_line_24 rfl rfl ?_
    refine u_getr (k := 0) (C := RX5) (T := TX5) (NF := 6) hS.o.1 hS.o.2 rfl rfl inX5_line_X5 (by decide) (by decide +kernel) rfl dX5_line_25 ?_
    refine v_iload_n 1 dX5_line_28 rfl rfl ?_
    refine v_iload_n 2 dX5_line_29 rfl rfl ?_
    refine u_callVv [.int (nI lz), .int (nI 2)] [] 2 (c_X1_numberOfLine_2 lu Dg E N G shp σ hS.h c hI (l := lz) hz) (ci := 1) (C := RX1) (T := TX1) (NF := 11) hS.h.n hS.h.s rfl gX5_line_X1_numberOfLine rfl rfl rfl (by decide +kernel) rfl ⟨Nat.le_of_ble_eq_true rfl, Nat.le_of_ble_eq_true rfl⟩ ⟨Nat.le_of_ble_eq_true rfl, Nat.le_of_ble_eq_true rfl⟩ (Nat.le_of_ble_eq_true rfl) rfl dX5_line_30 ?_
    refine v_iret rfl dX5_line_33 ⟨congrArg (fun z => some (Value.int z)) ?_, congrArg (φ shp) ?_⟩
    · rfl
    · rfl
  · skip
    omega
set_option maxHeartbeats 4000000 in
set_option maxRecDepth 100000 in
theorem c_X5_line_0_3 (lu : Launch) (Dg : va_G) (E : Nat → ClassId) (N : Nat) (G : Nat → Nat) (shp : Nat → (Nat → Int32) → va_E) (σ : Nat → Nat → Int32) (hS : StoodS E G shp N) (c : Nat → Int32) {T : Nat} (hI : Inv T c) {lz : Nat} (hz : lz < tn (c 1))  : CS lu yX5_line wsX5_line { frames := 6, cells := 0, slots := 0, locals := 141 } Dg E N G shp (hs σ 1 c) [.ref (G 0), .int (nI lz), .int (nI 3)] (some (.int (c (19 + lz)))) (hs σ 1 c) := by
  refine CS.of (cc := cX5_line) (maxL := 3) (ret := (some .int)) (by decide) rfl (Nat.le_of_ble_eq_true rfl) ?_
  intro p_ e_ s_ m_ args_ below_ meth_ c_
  refine v_eq (pc' := 0) (st' := []) rfl rfl ?_
  refine v_loc [0, 1, 2] [(0, .ref (G 0)), (1, .int (nI lz)), (2, .int (nI 3))] rfl ?_
  refine v_aload_n 0 dX5_line_0 rfl rfl ?_
  refine v_iload_n 1 dX5_line_1 rfl rfl ?_
  refine u_callVn [.int (nI lz)] [] 1 (c_X5_requireLine lu Dg E N G shp σ hS c hI (lz := lz) hz) (ci := 5) (C := RX5) (T := TX5) (NF := 6) hS.o.1 hS.o.2 rfl gX5_line_X5_requireLine rfl rfl rfl (by decide +kernel) rfl ⟨Nat.le_of_ble_eq_true rfl, Nat.le_of_ble_eq_true rfl⟩ ⟨Nat.le_of_ble_eq_true rfl, Nat.le_of_ble_eq_true rfl⟩ (Nat.le_of_ble_eq_true rfl) rfl dX5_line_2 ?_
  refine v_iload_n 2 dX5_line_5 rfl rfl ?_
  refine v_if_ltN (by omega) dX5_line_6 ⟨14, rfl⟩ ?_
  refine v_iload_n 2 dX5_line_9 rfl rfl ?_
  refine v_iconst (nI 4) dX5_line_10 (by decide +kernel) ?_
  refine v_icmp_leN 24 (by omega) (by omega) dX5_line_11 rfl (fun h11 => ?_) (fun h11 => ?_)
  · skip
    refine v_aload_n 0 dX5_line_24 rfl rfl ?_
    refine u_getr (k := 0) (C := RX5) (T := TX5) (NF := 6) hS.o.1 hS.o.2 rfl rfl inX5_line_X5 (by decide) (by decide +kernel) rfl dX5_line_25 ?_
    refine v_iload_n 1 dX5_line_28 rfl rfl ?_
    refine v_iload_n 2 dX5_line_29 rfl rfl ?_
    refine u_callVv [.int (nI lz), .int (nI 3)] [] 2 (c_X1_numberOfLine_3 lu Dg E N G shp σ hS.h c hI (l := lz) hz) (ci := 1) (C := RX1) (T := TX1) (NF := 11) hS.h.n hS.h.s rfl gX5_line_X1_numberOfLine rfl rfl rfl (by decide +kernel) rfl ⟨Nat.le_of_ble_eq_true rfl, Nat.le_of_ble_eq_true rfl⟩ ⟨Nat.le_of_ble_eq_true rfl, Nat.le_of_ble_eq_true rfl⟩ (Nat.le_of_ble_eq_true rfl) rfl dX5_line_30 ?_
    refine v_iret rfl dX5_line_33 ⟨congrArg (fun z => some (Value.int z)) ?_, congrArg (φ shp) ?_⟩
    · rfl
    · rfl
  · skip
    omega
set_option maxHeartbeats 4000000 in
set_option maxRecDepth 100000 in
theorem c_X5_line_0_4 (lu : Launch) (Dg : va_G) (E : Nat → ClassId) (N : Nat) (G : Nat → Nat) (shp : Nat → (Nat → Int32) → va_E) (σ : Nat → Nat → Int32) (hS : StoodS E G shp N) (c : Nat → Int32) {T : Nat} (hI : Inv T c) {lz : Nat} (hz : lz < tn (c 1))  : CS lu yX5_line wsX5_line { frames := 6, cells := 0, slots := 0, locals := 141 } Dg E N G shp (hs σ 1 c) [.ref (G 0), .int (nI lz), .int (nI 4)] (some (.int (stoodN c lz (tn (c (13 + lz)))))) (hs σ 1 c) := by
  refine CS.of (cc := cX5_line) (maxL := 3) (ret := (some .int)) (by decide) rfl (Nat.le_of_ble_eq_true rfl) ?_
  intro p_ e_ s_ m_ args_ below_ meth_ c_
  refine v_eq (pc' := 0) (st' := []) rfl rfl ?_
  refine v_loc [0, 1, 2] [(0, .ref (G 0)), (1, .int (nI lz)), (2, .int (nI 4))] rfl ?_
  refine v_aload_n 0 dX5_line_0 rfl rfl ?_
  refine v_iload_n 1 dX5_line_1 rfl rfl ?_
  refine u_callVn [.int (nI lz)] [] 1 (c_X5_requireLine lu Dg E N G shp σ hS c hI (lz := lz) hz) (ci := 5) (C := RX5) (T := TX5) (NF := 6) hS.o.1 hS.o.2 rfl gX5_line_X5_requireLine rfl rfl rfl (by decide +kernel) rfl ⟨Nat.le_of_ble_eq_true rfl, Nat.le_of_ble_eq_true rfl⟩ ⟨Nat.le_of_ble_eq_true rfl, Nat.le_of_ble_eq_true rfl⟩ (Nat.le_of_ble_eq_true rfl) rfl dX5_line_2 ?_
  refine v_iload_n 2 dX5_line_5 rfl rfl ?_
  refine v_if_ltN (by omega) dX5_line_6 ⟨14, rfl⟩ ?_
  refine v_iload_n 2 dX5_line_9 rfl rfl ?_
  refine v_iconst (nI 4) dX5_line_10 (by decide +kernel) ?_
  refine v_icmp_leN 24 (by omega) (by omega) dX5_line_11 rfl (fun h11 => ?_) (fun h11 => ?_)
  · skip
    refine v_aload_n 0 dX5_line_24 rfl rfl ?_
    refine u_getr (k := 0) (C := RX5) (T := TX5) (NF := 6) hS.o.1 hS.o.2 rfl rfl inX5_line_X5 (by decide) (by decide +kernel) rfl dX5_line_25 ?_
    refine v_iload_n 1 dX5_line_28 rfl rfl ?_
    refine v_iload_n 2 dX5_line_29 rfl rfl ?_
    refine u_callVv [.int (nI lz), .int (nI 4)] [] 2 (c_X1_numberOfLine_4 lu Dg E N G shp σ hS.h c hI (l := lz) hz) (ci := 1) (C := RX1) (T := TX1) (NF := 11) hS.h.n hS.h.s rfl gX5_line_X1_numberOfLine rfl rfl rfl (by decide +kernel) rfl ⟨Nat.le_of_ble_eq_true rfl, Nat.le_of_ble_eq_true rfl⟩ ⟨Nat.le_of_ble_eq_true rfl, Nat.le_of_ble_eq_true rfl⟩ (Nat.le_of_ble_eq_true rfl) rfl dX5_line_30 ?_
    refine v_iret rfl dX5_line_33 ⟨congrArg (fun z => some (Value.int z)) ?_, congrArg (φ shp) ?_⟩
    · rfl
    · rfl
  · skip
    omega
set_option maxRecDepth 100000 in
theorem inX5_at_X5 : ∀ w ∈ wsX50, w ∈ wsX5_at := by decide +kernel
set_option maxHeartbeats 4000000 in
set_option maxRecDepth 100000 in
theorem c_X5_at_0 (lu : Launch) (Dg : va_G) (E : Nat → ClassId) (N : Nat) (G : Nat → Nat) (shp : Nat → (Nat → Int32) → va_E) (σ : Nat → Nat → Int32) (hS : StoodS E G shp N) (c : Nat → Int32) {T : Nat} (hI : Inv T c) {lz : Nat} (hz : lz < tn (c 1)) {kz : Nat} (hk : kz < 2 ^ 31)  : CS lu yX5_at wsX5_at { frames := 6, cells := 0, slots := 0, locals := 141 } Dg E N G shp (hs σ 1 c) [.ref (G 0), .int (nI lz), .int (nI kz)] (some (.int (ic (kz < tn (c (13 + lz))) (c (22 + 12 * lz + kz)) (-1)))) (hs σ 1 c) := by
  refine CS.of (cc := cX5_at) (maxL := 3) (ret := (some .int)) (by decide) rfl (Nat.le_of_ble_eq_true rfl) ?_
  intro p_ e_ s_ m_ args_ below_ meth_ c_
  refine v_eq (pc' := 0) (st' := []) rfl rfl ?_
  refine v_loc [0, 1, 2] [(0, .ref (G 0)), (1, .int (nI lz)), (2, .int (nI kz))] rfl ?_
  have hnl3 := hI.nl3
  refine v_aload_n 0 dX5_at_0 rfl rfl ?_
  refine v_iload_n 1 dX5_at_1 rfl rfl ?_
  refine u_callVn [.int (nI lz)] [] 1 (c_X5_requireLine lu Dg E N G shp σ hS c hI (lz := lz) hz) (ci := 5) (C := RX5) (T := TX5) (NF := 6) hS.o.1 hS.o.2 rfl gX5_at_X5_requireLine rfl rfl rfl (by decide +kernel) rfl ⟨Nat.le_of_ble_eq_true rfl, Nat.le_of_ble_eq_true rfl⟩ ⟨Nat.le_of_ble_eq_true rfl, Nat.le_of_ble_eq_true rfl⟩ (Nat.le_of_ble_eq_true rfl) rfl dX5_at_2 ?_
  refine v_iload_n 2 dX5_at_5 rfl rfl ?_
  refine v_if_geN 19 hk dX5_at_6 rfl ?_
  refine v_aload_n 0 dX5_at_19 rfl rfl ?_
  refine u_getr (k := 0) (C := RX5) (T := TX5) (NF := 6) hS.o.1 hS.o.2 rfl rfl inX5_at_X5 (by decide) (by decide +kernel) rfl dX5_at_20 ?_
  refine v_iload_n 1 dX5_at_23 rfl rfl ?_
  refine u_callVv [.int (nI lz)] [] 1 (c_X1_lineOf lu Dg E N G shp σ hS.h c (k := lz) (by omega)) (ci := 1) (C := RX1) (T := TX1) (NF := 11) hS.h.n hS.h.s rfl gX5_at_X1_lineOf rfl rfl rfl (by decide +kernel) rfl ⟨Nat.le_of_ble_eq_true rfl, Nat.le_of_ble_eq_true rfl⟩ ⟨Nat.le_of_ble_eq_true rfl, Nat.le_of_ble_eq_true rfl⟩ (Nat.le_of_ble_eq_true rfl) rfl dX5_at_24 ?_
  refine v_iload_n 2 dX5_at_27 rfl rfl ?_
  refine u_callVv [.int (nI kz)] [] 1 (c_X3_who lu Dg E N G shp σ hS.h c (l := lz) (by omega) (hI.len hz) (hI.len12 hz) kz hk) (ci := 3) (C := RX3) (T := TX3) (NF := 5) (hS.h.li (l := lz) (by omega)).n (hS.h.li (l := lz) (by omega)).2.1 rfl gX5_at_X3_who rfl rfl rfl (by decide +kernel) rfl ⟨Nat.le_of_ble_eq_true rfl, Nat.le_of_ble_eq_true rfl⟩ ⟨Nat.le_of_ble_eq_true rfl, Nat.le_of_ble_eq_true rfl⟩ (Nat.le_of_ble_eq_true rfl) rfl dX5_at_28 ?_
  refine v_iret rfl dX5_at_31 ⟨congrArg (fun z => some (Value.int z)) ?_, congrArg (φ shp) ?_⟩
  · rfl
  · rfl
set_option maxRecDepth 100000 in
theorem inX5_person_X5 : ∀ w ∈ wsX50, w ∈ wsX5_person := by decide +kernel
set_option maxHeartbeats 4000000 in
set_option maxRecDepth 100000 in
theorem c_X5_person_0_0 (lu : Launch) (Dg : va_G) (E : Nat → ClassId) (N : Nat) (G : Nat → Nat) (shp : Nat → (Nat → Int32) → va_E) (σ : Nat → Nat → Int32) (hS : StoodS E G shp N) (c : Nat → Int32) {T : Nat} (hI : Inv T c) {pz : Nat} (hz : pz < tn (c 2))  : CS lu yX5_person wsX5_person { frames := 6, cells := 0, slots := 0, locals := 141 } Dg E N G shp (hs σ 1 c) [.ref (G 0), .int (nI pz), .int (nI 0)] (some (.int (c (58 + 10 * pz)))) (hs σ 1 c) := by
  refine CS.of (cc := cX5_person) (maxL := 3) (ret := (some .int)) (by decide) rfl (Nat.le_of_ble_eq_true rfl) ?_
  intro p_ e_ s_ m_ args_ below_ meth_ c_
  refine v_eq (pc' := 0) (st' := []) rfl rfl ?_
  refine v_loc [0, 1, 2] [(0, .ref (G 0)), (1, .int (nI pz)), (2, .int (nI 0))] rfl ?_
  refine v_aload_n 0 dX5_person_0 rfl rfl ?_
  refine v_iload_n 1 dX5_person_1 rfl rfl ?_
  refine u_callVn [.int (nI pz)] [] 1 (c_X5_requirePerson lu Dg E N G shp σ hS c hI (pz := pz) hz) (ci := 5) (C := RX5) (T := TX5) (NF := 6) hS.o.1 hS.o.2 rfl gX5_person_X5_requirePerson rfl rfl rfl (by decide +kernel) rfl ⟨Nat.le_of_ble_eq_true rfl, Nat.le_of_ble_eq_true rfl⟩ ⟨Nat.le_of_ble_eq_true rfl, Nat.le_of_ble_eq_true rfl⟩ (Nat.le_of_ble_eq_true rfl) rfl dX5_person_2 ?_
  refine v_iload_n 2 dX5_person_5 rfl rfl ?_
  refine v_if_ltN (by omega) dX5_person_6 ⟨15, rfl⟩ ?_
  refine v_iload_n 2 dX5_person_9 rfl rfl ?_
  refine v_bipush (nI 8) dX5_person_10 (by decide +kernel) ?_
  refine v_icmp_leN 25 (by omega) (by omega) dX5_person_12 rfl (fun h12 => ?_) (fun h12 => ?_)
  · skip
    refine v_aload_n 0 dX5_person_25 rfl rfl ?_
    refine u_getr (k := 0) (C := RX5) (T := TX5) (NF := 6) hS.o.1 hS.o.2 rfl rfl inX5_person_X5 (by decide) (by decide +kernel) rfl dX5_person_26 ?_
    refine v_iload_n 1 dX5_person_29 rfl rfl ?_
    refine v_iload_n 2 dX5_person_30 rfl rfl ?_
    refine u_callVv [.int (nI pz), .int (nI 0)] [] 2 (c_X1_numberOfPerson_0 lu Dg E N G shp σ hS.h c hI  (p := pz) hz) (ci := 1) (C := RX1) (T := TX1) (NF := 11) hS.h.n hS.h.s rfl gX5_person_X1_numberOfPerson rfl rfl rfl (by decide +kernel) rfl ⟨Nat.le_of_ble_eq_true rfl, Nat.le_of_ble_eq_true rfl⟩ ⟨Nat.le_of_ble_eq_true rfl, Nat.le_of_ble_eq_true rfl⟩ (Nat.le_of_ble_eq_true rfl) rfl dX5_person_31 ?_
    refine v_iret rfl dX5_person_34 ⟨congrArg (fun z => some (Value.int z)) ?_, congrArg (φ shp) ?_⟩
    · rfl
    · rfl
  · skip
    omega
set_option maxHeartbeats 4000000 in
set_option maxRecDepth 100000 in
theorem c_X5_person_0_1 (lu : Launch) (Dg : va_G) (E : Nat → ClassId) (N : Nat) (G : Nat → Nat) (shp : Nat → (Nat → Int32) → va_E) (σ : Nat → Nat → Int32) (hS : StoodS E G shp N) (c : Nat → Int32) {T : Nat} (hI : Inv T c) {pz : Nat} (hz : pz < tn (c 2))  : CS lu yX5_person wsX5_person { frames := 6, cells := 0, slots := 0, locals := 141 } Dg E N G shp (hs σ 1 c) [.ref (G 0), .int (nI pz), .int (nI 1)] (some (.int (c (58 + 10 * pz + 1)))) (hs σ 1 c) := by
  refine CS.of (cc := cX5_person) (maxL := 3) (ret := (some .int)) (by decide) rfl (Nat.le_of_ble_eq_true rfl) ?_
  intro p_ e_ s_ m_ args_ below_ meth_ c_
  refine v_eq (pc' := 0) (st' := []) rfl rfl ?_
  refine v_loc [0, 1, 2] [(0, .ref (G 0)), (1, .int (nI pz)), (2, .int (nI 1))] rfl ?_
  refine v_aload_n 0 dX5_person_0 rfl rfl ?_
  refine v_iload_n 1 dX5_person_1 rfl rfl ?_
  refine u_callVn [.int (nI pz)] [] 1 (c_X5_requirePerson lu Dg E N G shp σ hS c hI (pz := pz) hz) (ci := 5) (C := RX5) (T := TX5) (NF := 6) hS.o.1 hS.o.2 rfl gX5_person_X5_requirePerson rfl rfl rfl (by decide +kernel) rfl ⟨Nat.le_of_ble_eq_true rfl, Nat.le_of_ble_eq_true rfl⟩ ⟨Nat.le_of_ble_eq_true rfl, Nat.le_of_ble_eq_true rfl⟩ (Nat.le_of_ble_eq_true rfl) rfl dX5_person_2 ?_
  refine v_iload_n 2 dX5_person_5 rfl rfl ?_
  refine v_if_ltN (by omega) dX5_person_6 ⟨15, rfl⟩ ?_
  refine v_iload_n 2 dX5_person_9 rfl rfl ?_
  refine v_bipush (nI 8) dX5_person_10 (by decide +kernel) ?_
  refine v_icmp_leN 25 (by omega) (by omega) dX5_person_12 rfl (fun h12 => ?_) (fun h12 => ?_)
  · skip
    refine v_aload_n 0 dX5_person_25 rfl rfl ?_
    refine u_getr (k := 0) (C := RX5) (T := TX5) (NF := 6) hS.o.1 hS.o.2 rfl rfl inX5_person_X5 (by decide) (by decide +kernel) rfl dX5_person_26 ?_
    refine v_iload_n 1 dX5_person_29 rfl rfl ?_
    refine v_iload_n 2 dX5_person_30 rfl rfl ?_
    refine u_callVv [.int (nI pz), .int (nI 1)] [] 2 (c_X1_numberOfPerson_1 lu Dg E N G shp σ hS.h c hI  (p := pz) hz) (ci := 1) (C := RX1) (T := TX1) (NF := 11) hS.h.n hS.h.s rfl gX5_person_X1_numberOfPerson rfl rfl rfl (by decide +kernel) rfl ⟨Nat.le_of_ble_eq_true rfl, Nat.le_of_ble_eq_true rfl⟩ ⟨Nat.le_of_ble_eq_true rfl, Nat.le_of_ble_eq_true rfl⟩ (Nat.le_of_ble_eq_true rfl) rfl dX5_person_31 ?_
    refine v_iret rfl dX5_person_34 ⟨congrArg (fun z => some (Value.int z)) ?_, congrArg (φ shp) ?_⟩
    · rfl
    · rfl
  · skip
    omega
set_option maxHeartbeats 4000000 in
set_option maxRecDepth 100000 in
theorem c_X5_person_0_2s (lu : Launch) (Dg : va_G) (E : Nat → ClassId) (N : Nat) (G : Nat → Nat) (shp : Nat → (Nat → Int32) → va_E) (σ : Nat → Nat → Int32) (hS : StoodS E G shp N) (c : Nat → Int32) {T : Nat} (hI : Inv T c) {pz : Nat} (hz : pz < tn (c 2)) (hsd : c (58 + 10 * pz + 5) = 0)  : CS lu yX5_person wsX5_person { frames := 6, cells := 0, slots := 0, locals := 141 } Dg E N G shp (hs σ 1 c) [.ref (G 0), .int (nI pz), .int (nI 2)] (some (.int (nI (plc c pz)))) (hs σ 1 c) := by
  refine CS.of (cc := cX5_person) (maxL := 3) (ret := (some .int)) (by decide) rfl (Nat.le_of_ble_eq_true rfl) ?_
  intro p_ e_ s_ m_ args_ below_ meth_ c_
  refine v_eq (pc' := 0) (st' := []) rfl rfl ?_
  refine v_loc [0, 1, 2] [(0, .ref (G 0)), (1, .int (nI pz)), (2, .int (nI 2))] rfl ?_
  refine v_aload_n 0 dX5_person_0 rfl rfl ?_
  refine v_iload_n 1 dX5_person_1 rfl rfl ?_
  refine u_callVn [.int (nI pz)] [] 1 (c_X5_requirePerson lu Dg E N G shp σ hS c hI (pz := pz) hz) (ci := 5) (C := RX5) (T := TX5) (NF := 6) hS.o.1 hS.o.2 rfl gX5_person_X5_requirePerson rfl rfl rfl (by decide +kernel) rfl ⟨Nat.le_of_ble_eq_true rfl, Nat.le_of_ble_eq_true rfl⟩ ⟨Nat.le_of_ble_eq_true rfl, Nat.le_of_ble_eq_true rfl⟩ (Nat.le_of_ble_eq_true rfl) rfl dX5_person_2 ?_
  refine v_iload_n 2 dX5_person_5 rfl rfl ?_
  refine v_if_ltN (by omega) dX5_person_6 ⟨15, rfl⟩ ?_
  refine v_iload_n 2 dX5_person_9 rfl rfl ?_
  refine v_bipush (nI 8) dX5_person_10 (by decide +kernel) ?_
  refine v_icmp_leN 25 (by omega) (by omega) dX5_person_12 rfl (fun h12 => ?_) (fun h12 => ?_)
  · skip
    refine v_aload_n 0 dX5_person_25 rfl rfl ?_
    refine u_getr (k := 0) (C := RX5) (T := TX5) (NF := 6) hS.o.1 hS.o.2 rfl rfl inX5_person_X5 (by decide) (by decide +kernel) rfl dX5_person_26 ?_
    refine v_iload_n 1 dX5_person_29 rfl rfl ?_
    refine v_iload_n 2 dX5_person_30 rfl rfl ?_
    refine u_callVv [.int (nI pz), .int (nI 2)] [] 2 (c_X1_numberOfPerson_2s lu Dg E N G shp σ hS.h c hI  (p := pz) hz hsd) (ci := 1) (C := RX1) (T := TX1) (NF := 11) hS.h.n hS.h.s rfl gX5_person_X1_numberOfPerson rfl rfl rfl (by decide +kernel) rfl ⟨Nat.le_of_ble_eq_true rfl, Nat.le_of_ble_eq_true rfl⟩ ⟨Nat.le_of_ble_eq_true rfl, Nat.le_of_ble_eq_true rfl⟩ (Nat.le_of_ble_eq_true rfl) rfl dX5_person_31 ?_
    refine v_iret rfl dX5_person_34 ⟨congrArg (fun z => some (Value.int z)) ?_, congrArg (φ shp) ?_⟩
    · rfl
    · rfl
  · skip
    omega
set_option maxHeartbeats 4000000 in
set_option maxRecDepth 100000 in
theorem c_X5_person_0_2n (lu : Launch) (Dg : va_G) (E : Nat → ClassId) (N : Nat) (G : Nat → Nat) (shp : Nat → (Nat → Int32) → va_E) (σ : Nat → Nat → Int32) (hS : StoodS E G shp N) (c : Nat → Int32) {T : Nat} (hI : Inv T c) {pz : Nat} (hz : pz < tn (c 2)) (hsd : ¬ c (58 + 10 * pz + 5) = 0) (hnl : σ (1 + 4) 3 = nI 0)  : CS lu yX5_person wsX5_person { frames := 6, cells := 0, slots := 0, locals := 141 } Dg E N G shp (hs σ 1 c) [.ref (G 0), .int (nI pz), .int (nI 2)] (some (.int ((-1)))) (hs σ 1 c) := by
  refine CS.of (cc := cX5_person) (maxL := 3) (ret := (some .int)) (by decide) rfl (Nat.le_of_ble_eq_true rfl) ?_
  intro p_ e_ s_ m_ args_ below_ meth_ c_
  refine v_eq (pc' := 0) (st' := []) rfl rfl ?_
  refine v_loc [0, 1, 2] [(0, .ref (G 0)), (1, .int (nI pz)), (2, .int (nI 2))] rfl ?_
  refine v_aload_n 0 dX5_person_0 rfl rfl ?_
  refine v_iload_n 1 dX5_person_1 rfl rfl ?_
  refine u_callVn [.int (nI pz)] [] 1 (c_X5_requirePerson lu Dg E N G shp σ hS c hI (pz := pz) hz) (ci := 5) (C := RX5) (T := TX5) (NF := 6) hS.o.1 hS.o.2 rfl gX5_person_X5_requirePerson rfl rfl rfl (by decide +kernel) rfl ⟨Nat.le_of_ble_eq_true rfl, Nat.le_of_ble_eq_true rfl⟩ ⟨Nat.le_of_ble_eq_true rfl, Nat.le_of_ble_eq_true rfl⟩ (Nat.le_of_ble_eq_true rfl) rfl dX5_person_2 ?_
  refine v_iload_n 2 dX5_person_5 rfl rfl ?_
  refine v_if_ltN (by omega) dX5_person_6 ⟨15, rfl⟩ ?_
  refine v_iload_n 2 dX5_person_9 rfl rfl ?_
  refine v_bipush (nI 8) dX5_person_10 (by decide +kernel) ?_
  refine v_icmp_leN 25 (by omega) (by omega) dX5_person_12 rfl (fun h12 => ?_) (fun h12 => ?_)
  · skip
    refine v_aload_n 0 dX5_person_25 rfl rfl ?_
    refine u_getr (k := 0) (C := RX5) (T := TX5) (NF := 6) hS.o.1 hS.o.2 rfl rfl inX5_person_X5 (by decide) (by decide +kernel) rfl dX5_person_26 ?_
    refine v_iload_n 1 dX5_person_29 rfl rfl ?_
    refine v_iload_n 2 dX5_person_30 rfl rfl ?_
    refine u_callVv [.int (nI pz), .int (nI 2)] [] 2 (c_X1_numberOfPerson_2n lu Dg E N G shp σ hS.h c hI  (p := pz) hz hnl hsd) (ci := 1) (C := RX1) (T := TX1) (NF := 11) hS.h.n hS.h.s rfl gX5_person_X1_numberOfPerson rfl rfl rfl (by decide +kernel) rfl ⟨Nat.le_of_ble_eq_true rfl, Nat.le_of_ble_eq_true rfl⟩ ⟨Nat.le_of_ble_eq_true rfl, Nat.le_of_ble_eq_true rfl⟩ (Nat.le_of_ble_eq_true rfl) rfl dX5_person_31 ?_
    refine v_iret rfl dX5_person_34 ⟨congrArg (fun z => some (Value.int z)) ?_, congrArg (φ shp) ?_⟩
    · rfl
    · rfl
  · skip
    omega
set_option maxHeartbeats 4000000 in
set_option maxRecDepth 100000 in
theorem c_X5_person_0_3 (lu : Launch) (Dg : va_G) (E : Nat → ClassId) (N : Nat) (G : Nat → Nat) (shp : Nat → (Nat → Int32) → va_E) (σ : Nat → Nat → Int32) (hS : StoodS E G shp N) (c : Nat → Int32) {T : Nat} (hI : Inv T c) {pz : Nat} (hz : pz < tn (c 2))  : CS lu yX5_person wsX5_person { frames := 6, cells := 0, slots := 0, locals := 141 } Dg E N G shp (hs σ 1 c) [.ref (G 0), .int (nI pz), .int (nI 3)] (some (.int (c (58 + 10 * pz + 2)))) (hs σ 1 c) := by
  refine CS.of (cc := cX5_person) (maxL := 3) (ret := (some .int)) (by decide) rfl (Nat.le_of_ble_eq_true rfl) ?_
  intro p_ e_ s_ m_ args_ below_ meth_ c_
  refine v_eq (pc' := 0) (st' := []) rfl rfl ?_
  refine v_loc [0, 1, 2] [(0, .ref (G 0)), (1, .int (nI pz)), (2, .int (nI 3))] rfl ?_
  refine v_aload_n 0 dX5_person_0 rfl rfl ?_
  refine v_iload_n 1 dX5_person_1 rfl rfl ?_
  refine u_callVn [.int (nI pz)] [] 1 (c_X5_requirePerson lu Dg E N G shp σ hS c hI (pz := pz) hz) (ci := 5) (C := RX5) (T := TX5) (NF := 6) hS.o.1 hS.o.2 rfl gX5_person_X5_requirePerson rfl rfl rfl (by decide +kernel) rfl ⟨Nat.le_of_ble_eq_true rfl, Nat.le_of_ble_eq_true rfl⟩ ⟨Nat.le_of_ble_eq_true rfl, Nat.le_of_ble_eq_true rfl⟩ (Nat.le_of_ble_eq_true rfl) rfl dX5_person_2 ?_
  refine v_iload_n 2 dX5_person_5 rfl rfl ?_
  refine v_if_ltN (by omega) dX5_person_6 ⟨15, rfl⟩ ?_
  refine v_iload_n 2 dX5_person_9 rfl rfl ?_
  refine v_bipush (nI 8) dX5_person_10 (by decide +kernel) ?_
  refine v_icmp_leN 25 (by omega) (by omega) dX5_person_12 rfl (fun h12 => ?_) (fun h12 => ?_)
  · skip
    refine v_aload_n 0 dX5_person_25 rfl rfl ?_
    refine u_getr (k := 0) (C := RX5) (T := TX5) (NF := 6) hS.o.1 hS.o.2 rfl rfl inX5_person_X5 (by decide) (by decide +kernel) rfl dX5_person_26 ?_
    refine v_iload_n 1 dX5_person_29 rfl rfl ?_
    refine v_iload_n 2 dX5_person_30 rfl rfl ?_
    refine u_callVv [.int (nI pz), .int (nI 3)] [] 2 (c_X1_numberOfPerson_3 lu Dg E N G shp σ hS.h c hI  (p := pz) hz) (ci := 1) (C := RX1) (T := TX1) (NF := 11) hS.h.n hS.h.s rfl gX5_person_X1_numberOfPerson rfl rfl rfl (by decide +kernel) rfl ⟨Nat.le_of_ble_eq_true rfl, Nat.le_of_ble_eq_true rfl⟩ ⟨Nat.le_of_ble_eq_true rfl, Nat.le_of_ble_eq_true rfl⟩ (Nat.le_of_ble_eq_true rfl) rfl dX5_person_31 ?_
    refine v_iret rfl dX5_person_34 ⟨congrArg (fun z => some (Value.int z)) ?_, congrArg (φ shp) ?_⟩
    · rfl
    · rfl
  · skip
    omega
set_option maxHeartbeats 4000000 in
set_option maxRecDepth 100000 in
theorem c_X5_person_0_4 (lu : Launch) (Dg : va_G) (E : Nat → ClassId) (N : Nat) (G : Nat → Nat) (shp : Nat → (Nat → Int32) → va_E) (σ : Nat → Nat → Int32) (hS : StoodS E G shp N) (c : Nat → Int32) {T : Nat} (hI : Inv T c) {pz : Nat} (hz : pz < tn (c 2))  : CS lu yX5_person wsX5_person { frames := 6, cells := 0, slots := 0, locals := 141 } Dg E N G shp (hs σ 1 c) [.ref (G 0), .int (nI pz), .int (nI 4)] (some (.int (c (58 + 10 * pz + 3)))) (hs σ 1 c) := by
  refine CS.of (cc := cX5_person) (maxL := 3) (ret := (some .int)) (by decide) rfl (Nat.le_of_ble_eq_true rfl) ?_
  intro p_ e_ s_ m_ args_ below_ meth_ c_
  refine v_eq (pc' := 0) (st' := []) rfl rfl ?_
  refine v_loc [0, 1, 2] [(0, .ref (G 0)), (1, .int (nI pz)), (2, .int (nI 4))] rfl ?_
  refine v_aload_n 0 dX5_person_0 rfl rfl ?_
  refine v_iload_n 1 dX5_person_1 rfl rfl ?_
  refine u_callVn [.int (nI pz)] [] 1 (c_X5_requirePerson lu Dg E N G shp σ hS c hI (pz := pz) hz) (ci := 5) (C := RX5) (T := TX5) (NF := 6) hS.o.1 hS.o.2 rfl gX5_person_X5_requirePerson rfl rfl rfl (by decide +kernel) rfl ⟨Nat.le_of_ble_eq_true rfl, Nat.le_of_ble_eq_true rfl⟩ ⟨Nat.le_of_ble_eq_true rfl, Nat.le_of_ble_eq_true rfl⟩ (Nat.le_of_ble_eq_true rfl) rfl dX5_person_2 ?_
  refine v_iload_n 2 dX5_person_5 rfl rfl ?_
  refine v_if_ltN (by omega) dX5_person_6 ⟨15, rfl⟩ ?_
  refine v_iload_n 2 dX5_person_9 rfl rfl ?_
  refine v_bipush (nI 8) dX5_person_10 (by decide +kernel) ?_
  refine v_icmp_leN 25 (by omega) (by omega) dX5_person_12 rfl (fun h12 => ?_) (fun h12 => ?_)
  · skip
    refine v_aload_n 0 dX5_person_25 rfl rfl ?_
    refine u_getr (k := 0) (C := RX5) (T := TX5) (NF := 6) hS.o.1 hS.o.2 rfl rfl inX5_person_X5 (by decide) (by decide +kernel) rfl dX5_person_26 ?_
    refine v_iload_n 1 dX5_person_29 rfl rfl ?_
    refine v_iload_n 2 dX5_person_30 rfl rfl ?_
    refine u_callVv [.int (nI pz), .int (nI 4)] [] 2 (c_X1_numberOfPerson_4 lu Dg E N G shp σ hS.h c hI  (p := pz) hz) (ci := 1) (C := RX1) (T := TX1) (NF := 11) hS.h.n hS.h.s rfl gX5_person_X1_numberOfPerson rfl rfl rfl (by decide +kernel) rfl ⟨Nat.le_of_ble_eq_true rfl, Nat.le_of_ble_eq_true rfl⟩ ⟨Nat.le_of_ble_eq_true rfl, Nat.le_of_ble_eq_true rfl⟩ (Nat.le_of_ble_eq_true rfl) rfl dX5_person_31 ?_
    refine v_iret rfl dX5_person_34 ⟨congrArg (fun z => some (Value.int z)) ?_, congrArg (φ shp) ?_⟩
    · rfl
    · rfl
  · skip
    omega
set_option maxHeartbeats 4000000 in
set_option maxRecDepth 100000 in
theorem c_X5_person_0_5 (lu : Launch) (Dg : va_G) (E : Nat → ClassId) (N : Nat) (G : Nat → Nat) (shp : Nat → (Nat → Int32) → va_E) (σ : Nat → Nat → Int32) (hS : StoodS E G shp N) (c : Nat → Int32) {T : Nat} (hI : Inv T c) {pz : Nat} (hz : pz < tn (c 2))  : CS lu yX5_person wsX5_person { frames := 6, cells := 0, slots := 0, locals := 141 } Dg E N G shp (hs σ 1 c) [.ref (G 0), .int (nI pz), .int (nI 5)] (some (.int (c (58 + 10 * pz + 4)))) (hs σ 1 c) := by
  refine CS.of (cc := cX5_person) (maxL := 3) (ret := (some .int)) (by decide) rfl (Nat.le_of_ble_eq_true rfl) ?_
  intro p_ e_ s_ m_ args_ below_ meth_ c_
  refine v_eq (pc' := 0) (st' := []) rfl rfl ?_
  refine v_loc [0, 1, 2] [(0, .ref (G 0)), (1, .int (nI pz)), (2, .int (nI 5))] rfl ?_
  refine v_aload_n 0 dX5_person_0 rfl rfl ?_
  refine v_iload_n 1 dX5_person_1 rfl rfl ?_
  refine u_callVn [.int (nI pz)] [] 1 (c_X5_requirePerson lu Dg E N G shp σ hS c hI (pz := pz) hz) (ci := 5) (C := RX5) (T := TX5) (NF := 6) hS.o.1 hS.o.2 rfl gX5_person_X5_requirePerson rfl rfl rfl (by decide +kernel) rfl ⟨Nat.le_of_ble_eq_true rfl, Nat.le_of_ble_eq_true rfl⟩ ⟨Nat.le_of_ble_eq_true rfl, Nat.le_of_ble_eq_true rfl⟩ (Nat.le_of_ble_eq_true rfl) rfl dX5_person_2 ?_
  refine v_iload_n 2 dX5_person_5 rfl rfl ?_
  refine v_if_ltN (by omega) dX5_person_6 ⟨15, rfl⟩ ?_
  refine v_iload_n 2 dX5_person_9 rfl rfl ?_
  refine v_bipush (nI 8) dX5_person_10 (by decide +kernel) ?_
  refine v_icmp_leN 25 (by omega) (by omega) dX5_person_12 rfl (fun h12 => ?_) (fun h12 => ?_)
  · skip
    refine v_aload_n 0 dX5_person_25 rfl rfl ?_
    refine u_getr (k := 0) (C := RX5) (T := TX5) (NF := 6) hS.o.1 hS.o.2 rfl rfl inX5_person_X5 (by decide) (by decide +kernel) rfl dX5_person_26 ?_
    refine v_iload_n 1 dX5_person_29 rfl rfl ?_
    refine v_iload_n 2 dX5_person_30 rfl rfl ?_
    refine u_callVv [.int (nI pz), .int (nI 5)] [] 2 (c_X1_numberOfPerson_5 lu Dg E N G shp σ hS.h c hI  (p := pz) hz) (ci := 1) (C := RX1) (T := TX1) (NF := 11) hS.h.n hS.h.s rfl gX5_person_X1_numberOfPerson rfl rfl rfl (by decide +kernel) rfl ⟨Nat.le_of_ble_eq_true rfl, Nat.le_of_ble_eq_true rfl⟩ ⟨Nat.le_of_ble_eq_true rfl, Nat.le_of_ble_eq_true rfl⟩ (Nat.le_of_ble_eq_true rfl) rfl dX5_person_31 ?_
    refine v_iret rfl dX5_person_34 ⟨congrArg (fun z => some (Value.int z)) ?_, congrArg (φ shp) ?_⟩
    · rfl
    · rfl
  · skip
    omega
set_option maxHeartbeats 4000000 in
set_option maxRecDepth 100000 in
theorem c_X5_person_0_6 (lu : Launch) (Dg : va_G) (E : Nat → ClassId) (N : Nat) (G : Nat → Nat) (shp : Nat → (Nat → Int32) → va_E) (σ : Nat → Nat → Int32) (hS : StoodS E G shp N) (c : Nat → Int32) {T : Nat} (hI : Inv T c) {pz : Nat} (hz : pz < tn (c 2))  : CS lu yX5_person wsX5_person { frames := 6, cells := 0, slots := 0, locals := 141 } Dg E N G shp (hs σ 1 c) [.ref (G 0), .int (nI pz), .int (nI 6)] (some (.int (c (58 + 10 * pz + 5)))) (hs σ 1 c) := by
  refine CS.of (cc := cX5_person) (maxL := 3) (ret := (some .int)) (by decide) rfl (Nat.le_of_ble_eq_true rfl) ?_
  intro p_ e_ s_ m_ args_ below_ meth_ c_
  refine v_eq (pc' := 0) (st' := []) rfl rfl ?_
  refine v_loc [0, 1, 2] [(0, .ref (G 0)), (1, .int (nI pz)), (2, .int (nI 6))] rfl ?_
  refine v_aload_n 0 dX5_person_0 rfl rfl ?_
  refine v_iload_n 1 dX5_person_1 rfl rfl ?_
  refine u_callVn [.int (nI pz)] [] 1 (c_X5_requirePerson lu Dg E N G shp σ hS c hI (pz := pz) hz) (ci := 5) (C := RX5) (T := TX5) (NF := 6) hS.o.1 hS.o.2 rfl gX5_person_X5_requirePerson rfl rfl rfl (by decide +kernel) rfl ⟨Nat.le_of_ble_eq_true rfl, Nat.le_of_ble_eq_true rfl⟩ ⟨Nat.le_of_ble_eq_true rfl, Nat.le_of_ble_eq_true rfl⟩ (Nat.le_of_ble_eq_true rfl) rfl dX5_person_2 ?_
  refine v_iload_n 2 dX5_person_5 rfl rfl ?_
  refine v_if_ltN (by omega) dX5_person_6 ⟨15, rfl⟩ ?_
  refine v_iload_n 2 dX5_person_9 rfl rfl ?_
  refine v_bipush (nI 8) dX5_person_10 (by decide +kernel) ?_
  refine v_icmp_leN 25 (by omega) (by omega) dX5_person_12 rfl (fun h12 => ?_) (fun h12 => ?_)
  · skip
    refine v_aload_n 0 dX5_person_25 rfl rfl ?_
    refine u_getr (k := 0) (C := RX5) (T := TX5) (NF := 6) hS.o.1 hS.o.2 rfl rfl inX5_person_X5 (by decide) (by decide +kernel) rfl dX5_person_26 ?_
    refine v_iload_n 1 dX5_person_29 rfl rfl ?_
    refine v_iload_n 2 dX5_person_30 rfl rfl ?_
    refine u_callVv [.int (nI pz), .int (nI 6)] [] 2 (c_X1_numberOfPerson_6 lu Dg E N G shp σ hS.h c hI  (p := pz) hz) (ci := 1) (C := RX1) (T := TX1) (NF := 11) hS.h.n hS.h.s rfl gX5_person_X1_numberOfPerson rfl rfl rfl (by decide +kernel) rfl ⟨Nat.le_of_ble_eq_true rfl, Nat.le_of_ble_eq_true rfl⟩ ⟨Nat.le_of_ble_eq_true rfl, Nat.le_of_ble_eq_true rfl⟩ (Nat.le_of_ble_eq_true rfl) rfl dX5_person_31 ?_
    refine v_iret rfl dX5_person_34 ⟨congrArg (fun z => some (Value.int z)) ?_, congrArg (φ shp) ?_⟩
    · rfl
    · rfl
  · skip
    omega
set_option maxHeartbeats 4000000 in
set_option maxRecDepth 100000 in
theorem c_X5_person_0_7 (lu : Launch) (Dg : va_G) (E : Nat → ClassId) (N : Nat) (G : Nat → Nat) (shp : Nat → (Nat → Int32) → va_E) (σ : Nat → Nat → Int32) (hS : StoodS E G shp N) (c : Nat → Int32) {T : Nat} (hI : Inv T c) {pz : Nat} (hz : pz < tn (c 2))  : CS lu yX5_person wsX5_person { frames := 6, cells := 0, slots := 0, locals := 141 } Dg E N G shp (hs σ 1 c) [.ref (G 0), .int (nI pz), .int (nI 7)] (some (.int (c (58 + 10 * pz + 6)))) (hs σ 1 c) := by
  refine CS.of (cc := cX5_person) (maxL := 3) (ret := (some .int)) (by decide) rfl (Nat.le_of_ble_eq_true rfl) ?_
  intro p_ e_ s_ m_ args_ below_ meth_ c_
  refine v_eq (pc' := 0) (st' := []) rfl rfl ?_
  refine v_loc [0, 1, 2] [(0, .ref (G 0)), (1, .int (nI pz)), (2, .int (nI 7))] rfl ?_
  refine v_aload_n 0 dX5_person_0 rfl rfl ?_
  refine v_iload_n 1 dX5_person_1 rfl rfl ?_
  refine u_callVn [.int (nI pz)] [] 1 (c_X5_requirePerson lu Dg E N G shp σ hS c hI (pz := pz) hz) (ci := 5) (C := RX5) (T := TX5) (NF := 6) hS.o.1 hS.o.2 rfl gX5_person_X5_requirePerson rfl rfl rfl (by decide +kernel) rfl ⟨Nat.le_of_ble_eq_true rfl, Nat.le_of_ble_eq_true rfl⟩ ⟨Nat.le_of_ble_eq_true rfl, Nat.le_of_ble_eq_true rfl⟩ (Nat.le_of_ble_eq_true rfl) rfl dX5_person_2 ?_
  refine v_iload_n 2 dX5_person_5 rfl rfl ?_
  refine v_if_ltN (by omega) dX5_person_6 ⟨15, rfl⟩ ?_
  refine v_iload_n 2 dX5_person_9 rfl rfl ?_
  refine v_bipush (nI 8) dX5_person_10 (by decide +kernel) ?_
  refine v_icmp_leN 25 (by omega) (by omega) dX5_person_12 rfl (fun h12 => ?_) (fun h12 => ?_)
  · skip
    refine v_aload_n 0 dX5_person_25 rfl rfl ?_
    refine u_getr (k := 0) (C := RX5) (T := TX5) (NF := 6) hS.o.1 hS.o.2 rfl rfl inX5_person_X5 (by decide) (by decide +kernel) rfl dX5_person_26 ?_
    refine v_iload_n 1 dX5_person_29 rfl rfl ?_
    refine v_iload_n 2 dX5_person_30 rfl rfl ?_
    refine u_callVv [.int (nI pz), .int (nI 7)] [] 2 (c_X1_numberOfPerson_7 lu Dg E N G shp σ hS.h c hI  (p := pz) hz) (ci := 1) (C := RX1) (T := TX1) (NF := 11) hS.h.n hS.h.s rfl gX5_person_X1_numberOfPerson rfl rfl rfl (by decide +kernel) rfl ⟨Nat.le_of_ble_eq_true rfl, Nat.le_of_ble_eq_true rfl⟩ ⟨Nat.le_of_ble_eq_true rfl, Nat.le_of_ble_eq_true rfl⟩ (Nat.le_of_ble_eq_true rfl) rfl dX5_person_31 ?_
    refine v_iret rfl dX5_person_34 ⟨congrArg (fun z => some (Value.int z)) ?_, congrArg (φ shp) ?_⟩
    · rfl
    · rfl
  · skip
    omega
set_option maxHeartbeats 4000000 in
set_option maxRecDepth 100000 in
theorem c_X5_person_0_8 (lu : Launch) (Dg : va_G) (E : Nat → ClassId) (N : Nat) (G : Nat → Nat) (shp : Nat → (Nat → Int32) → va_E) (σ : Nat → Nat → Int32) (hS : StoodS E G shp N) (c : Nat → Int32) {T : Nat} (hI : Inv T c) {pz : Nat} (hz : pz < tn (c 2))  : CS lu yX5_person wsX5_person { frames := 6, cells := 0, slots := 0, locals := 141 } Dg E N G shp (hs σ 1 c) [.ref (G 0), .int (nI pz), .int (nI 8)] (some (.int (c (58 + 10 * pz + 7)))) (hs σ 1 c) := by
  refine CS.of (cc := cX5_person) (maxL := 3) (ret := (some .int)) (by decide) rfl (Nat.le_of_ble_eq_true rfl) ?_
  intro p_ e_ s_ m_ args_ below_ meth_ c_
  refine v_eq (pc' := 0) (st' := []) rfl rfl ?_
  refine v_loc [0, 1, 2] [(0, .ref (G 0)), (1, .int (nI pz)), (2, .int (nI 8))] rfl ?_
  refine v_aload_n 0 dX5_person_0 rfl rfl ?_
  refine v_iload_n 1 dX5_person_1 rfl rfl ?_
  refine u_callVn [.int (nI pz)] [] 1 (c_X5_requirePerson lu Dg E N G shp σ hS c hI (pz := pz) hz) (ci := 5) (C := RX5) (T := TX5) (NF := 6) hS.o.1 hS.o.2 rfl gX5_person_X5_requirePerson rfl rfl rfl (by decide +kernel) rfl ⟨Nat.le_of_ble_eq_true rfl, Nat.le_of_ble_eq_true rfl⟩ ⟨Nat.le_of_ble_eq_true rfl, Nat.le_of_ble_eq_true rfl⟩ (Nat.le_of_ble_eq_true rfl) rfl dX5_person_2 ?_
  refine v_iload_n 2 dX5_person_5 rfl rfl ?_
  refine v_if_ltN (by omega) dX5_person_6 ⟨15, rfl⟩ ?_
  refine v_iload_n 2 dX5_person_9 rfl rfl ?_
  refine v_bipush (nI 8) dX5_person_10 (by decide +kernel) ?_
  refine v_icmp_leN 25 (by omega) (by omega) dX5_person_12 rfl (fun h12 => ?_) (fun h12 => ?_)
  · skip
    refine v_aload_n 0 dX5_person_25 rfl rfl ?_
    refine u_getr (k := 0) (C := RX5) (T := TX5) (NF := 6) hS.o.1 hS.o.2 rfl rfl inX5_person_X5 (by decide) (by decide +kernel) rfl dX5_person_26 ?_
    refine v_iload_n 1 dX5_person_29 rfl rfl ?_
    refine v_iload_n 2 dX5_person_30 rfl rfl ?_
    refine u_callVv [.int (nI pz), .int (nI 8)] [] 2 (c_X1_numberOfPerson_8 lu Dg E N G shp σ hS.h c hI  (p := pz) hz) (ci := 1) (C := RX1) (T := TX1) (NF := 11) hS.h.n hS.h.s rfl gX5_person_X1_numberOfPerson rfl rfl rfl (by decide +kernel) rfl ⟨Nat.le_of_ble_eq_true rfl, Nat.le_of_ble_eq_true rfl⟩ ⟨Nat.le_of_ble_eq_true rfl, Nat.le_of_ble_eq_true rfl⟩ (Nat.le_of_ble_eq_true rfl) rfl dX5_person_31 ?_
    refine v_iret rfl dX5_person_34 ⟨congrArg (fun z => some (Value.int z)) ?_, congrArg (φ shp) ?_⟩
    · rfl
    · rfl
  · skip
    omega
set_option maxRecDepth 100000 in
theorem inX5_setting_X5 : ∀ w ∈ wsX50, w ∈ wsX5_setting := by decide +kernel
set_option maxHeartbeats 4000000 in
set_option maxRecDepth 100000 in
theorem c_X5_setting_0 (lu : Launch) (Dg : va_G) (E : Nat → ClassId) (N : Nat) (G : Nat → Nat) (shp : Nat → (Nat → Int32) → va_E) (σ : Nat → Nat → Int32) (hS : StoodS E G shp N) (c : Nat → Int32) {kz : Nat} (hz : kz < 4)  : CS lu yX5_setting wsX5_setting { frames := 6, cells := 0, slots := 0, locals := 140 } Dg E N G shp (hs σ 1 c) [.ref (G 0), .int (nI kz)] (some (.int (c (6 + kz)))) (hs σ 1 c) := by
  refine CS.of (cc := cX5_setting) (maxL := 2) (ret := (some .int)) (by decide) rfl (Nat.le_of_ble_eq_true rfl) ?_
  intro p_ e_ s_ m_ args_ below_ meth_ c_
  refine v_eq (pc' := 0) (st' := []) rfl rfl ?_
  refine v_loc [0, 1] [(0, .ref (G 0)), (1, .int (nI kz))] rfl ?_
  refine v_iload_n 1 dX5_setting_0 rfl rfl ?_
  refine u_callSn [.int (nI kz)] [] 1 (c_X5_requireSetting lu Dg E N G shp (hs σ 1 c) (kz := kz) hz) gX5_setting_X5_requireSetting rfl rfl rfl (by decide +kernel) rfl ⟨Nat.le_of_ble_eq_true rfl, Nat.le_of_ble_eq_true rfl⟩ ⟨Nat.le_of_ble_eq_true rfl, Nat.le_of_ble_eq_true rfl⟩ (Nat.le_of_ble_eq_true rfl) rfl dX5_setting_1 ?_
  refine v_aload_n 0 dX5_setting_4 rfl rfl ?_
  refine u_getr (k := 0) (C := RX5) (T := TX5) (NF := 6) hS.o.1 hS.o.2 rfl rfl inX5_setting_X5 (by decide) (by decide +kernel) rfl dX5_setting_5 ?_
  refine v_iload_n 1 dX5_setting_8 rfl rfl ?_
  refine u_callVv [.int (nI kz)] [] 1 (c_X1_settingOf lu Dg E N G shp σ hS.h c (k := kz) hz) (ci := 1) (C := RX1) (T := TX1) (NF := 11) hS.h.n hS.h.s rfl gX5_setting_X1_settingOf rfl rfl rfl (by decide +kernel) rfl ⟨Nat.le_of_ble_eq_true rfl, Nat.le_of_ble_eq_true rfl⟩ ⟨Nat.le_of_ble_eq_true rfl, Nat.le_of_ble_eq_true rfl⟩ (Nat.le_of_ble_eq_true rfl) rfl dX5_setting_9 ?_
  refine v_iret rfl dX5_setting_12 ⟨congrArg (fun z => some (Value.int z)) ?_, congrArg (φ shp) ?_⟩
  · rfl
  · rfl
set_option maxRecDepth 100000 in
theorem inX5_servedIn_X5 : ∀ w ∈ wsX50, w ∈ wsX5_servedIn := by decide +kernel
set_option maxHeartbeats 4000000 in
set_option maxRecDepth 100000 in
theorem c_X5_servedIn_0 (lu : Launch) (Dg : va_G) (E : Nat → ClassId) (N : Nat) (G : Nat → Nat) (shp : Nat → (Nat → Int32) → va_E) (σ : Nat → Nat → Int32) (hS : StoodS E G shp N) (c : Nat → Int32) {T : Nat} (hI : Inv T c) {pz : Nat} (hz : pz < tn (c 2)) (hsd : c (58 + 10 * pz + 5) = 0)  : CS lu yX5_servedIn wsX5_servedIn { frames := 7, cells := 0, slots := 0, locals := 162 } Dg E N G shp (hs σ 1 c) [.ref (G 0), .int (nI pz)] (some (.int (nI (waitN c pz)))) (hs σ 1 c) := by
  refine CS.of (cc := cX5_servedIn) (maxL := 2) (ret := (some .int)) (by decide) rfl (Nat.le_of_ble_eq_true rfl) ?_
  intro p_ e_ s_ m_ args_ below_ meth_ c_
  refine v_eq (pc' := 0) (st' := []) rfl rfl ?_
  refine v_loc [0, 1] [(0, .ref (G 0)), (1, .int (nI pz))] rfl ?_
  refine v_aload_n 0 dX5_servedIn_0 rfl rfl ?_
  refine v_iload_n 1 dX5_servedIn_1 rfl rfl ?_
  refine u_callVn [.int (nI pz)] [] 1 (c_X5_requireStanding lu Dg E N G shp σ hS c hI (pz := pz) hz hsd) (ci := 5) (C := RX5) (T := TX5) (NF := 6) hS.o.1 hS.o.2 rfl gX5_servedIn_X5_requireStanding rfl rfl rfl (by decide +kernel) rfl ⟨Nat.le_of_ble_eq_true rfl, Nat.le_of_ble_eq_true rfl⟩ ⟨Nat.le_of_ble_eq_true rfl, Nat.le_of_ble_eq_true rfl⟩ (Nat.le_of_ble_eq_true rfl) rfl dX5_servedIn_2 ?_
  refine v_aload_n 0 dX5_servedIn_5 rfl rfl ?_
  refine u_getr (k := 0) (C := RX5) (T := TX5) (NF := 6) hS.o.1 hS.o.2 rfl rfl inX5_servedIn_X5 (by decide) (by decide +kernel) rfl dX5_servedIn_6 ?_
  refine v_iload_n 1 dX5_servedIn_9 rfl rfl ?_
  refine u_callVv [.int (nI pz)] [] 1 (c_X1_waitOf lu Dg E N G shp σ hS.h c hI (p := pz) hz hsd) (ci := 1) (C := RX1) (T := TX1) (NF := 11) hS.h.n hS.h.s rfl gX5_servedIn_X1_waitOf rfl rfl rfl (by decide +kernel) rfl ⟨Nat.le_of_ble_eq_true rfl, Nat.le_of_ble_eq_true rfl⟩ ⟨Nat.le_of_ble_eq_true rfl, Nat.le_of_ble_eq_true rfl⟩ (Nat.le_of_ble_eq_true rfl) rfl dX5_servedIn_10 ?_
  refine v_iret rfl dX5_servedIn_13 ⟨congrArg (fun z => some (Value.int z)) ?_, congrArg (φ shp) ?_⟩
  · rfl
  · rfl
set_option maxRecDepth 100000 in
theorem inX5_willPay_X5 : ∀ w ∈ wsX50, w ∈ wsX5_willPay := by decide +kernel
set_option maxHeartbeats 4000000 in
set_option maxRecDepth 100000 in
theorem c_X5_willPay_0 (lu : Launch) (Dg : va_G) (E : Nat → ClassId) (N : Nat) (G : Nat → Nat) (shp : Nat → (Nat → Int32) → va_E) (σ : Nat → Nat → Int32) (hS : StoodS E G shp N) (c : Nat → Int32) {T : Nat} (hI : Inv T c) {kz : Nat} (h1 : 1 ≤ kz) (h99 : kz ≤ 999)  : CS lu yX5_willPay wsX5_willPay { frames := 5, cells := 0, slots := 0, locals := 120 } Dg E N G shp (hs σ 1 c) [.ref (G 0), .int (nI kz)] (some (.int (nI (sumN (payN c kz) (tn (c 2))) * c 7))) (hs σ 1 c) := by
  refine CS.of (cc := cX5_willPay) (maxL := 2) (ret := (some .int)) (by decide) rfl (Nat.le_of_ble_eq_true rfl) ?_
  intro p_ e_ s_ m_ args_ below_ meth_ c_
  refine v_eq (pc' := 0) (st' := []) rfl rfl ?_
  refine v_loc [0, 1] [(0, .ref (G 0)), (1, .int (nI kz))] rfl ?_
  refine v_iload_n 1 dX5_willPay_0 rfl rfl ?_
  refine v_iconst (nI 1) dX5_willPay_1 (by decide +kernel) ?_
  refine v_icmp_ltN 12 (by omega) (by omega) dX5_willPay_2 rfl (fun h2 => ?_) (fun h2 => ?_)
  · skip
    omega
  · skip
    refine v_iload_n 1 dX5_willPay_5 rfl rfl ?_
    refine v_sipush (nI 999) dX5_willPay_6 (by decide +kernel) ?_
    refine v_icmp_leN 22 (by omega) (by omega) dX5_willPay_9 rfl (fun h9 => ?_) (fun h9 => ?_)
    · skip
      refine v_aload_n 0 dX5_willPay_22 rfl rfl ?_
      refine u_getr (k := 0) (C := RX5) (T := TX5) (NF := 6) hS.o.1 hS.o.2 rfl rfl inX5_willPay_X5 (by decide) (by decide +kernel) rfl dX5_willPay_23 ?_
      refine v_iload_n 1 dX5_willPay_26 rfl rfl ?_
      refine u_callVv [.int (nI kz)] [] 1 (c_X1_feesWithin lu Dg E N G shp σ hS.h c hI (n0 := kz) h99) (ci := 1) (C := RX1) (T := TX1) (NF := 11) hS.h.n hS.h.s rfl gX5_willPay_X1_feesWithin rfl rfl rfl (by decide +kernel) rfl ⟨Nat.le_of_ble_eq_true rfl, Nat.le_of_ble_eq_true rfl⟩ ⟨Nat.le_of_ble_eq_true rfl, Nat.le_of_ble_eq_true rfl⟩ (Nat.le_of_ble_eq_true rfl) rfl dX5_willPay_27 ?_
      refine v_iret rfl dX5_willPay_30 ⟨congrArg (fun z => some (Value.int z)) ?_, congrArg (φ shp) ?_⟩
      · rfl
      · rfl
    · skip
      omega
set_option maxRecDepth 100000 in
theorem inX5_gain_X5 : ∀ w ∈ wsX50, w ∈ wsX5_gain := by decide +kernel
set_option maxHeartbeats 4000000 in
set_option maxRecDepth 100000 in
theorem c_X5_gain_0 (lu : Launch) (Dg : va_G) (E : Nat → ClassId) (N : Nat) (G : Nat → Nat) (shp : Nat → (Nat → Int32) → va_E) (σ : Nat → Nat → Int32) (hS : StoodS E G shp N) (c : Nat → Int32) {T : Nat} (hI : Inv T c) {pz qz : Nat} (hz : pz < tn (c 2)) (hw : qz < tn (c 2)) (hm : MayX c pz qz)  : CS lu yX5_gain wsX5_gain { frames := 7, cells := 0, slots := 0, locals := 163 } Dg E N G shp (hs σ 1 c) [.ref (G 0), .int (nI pz), .int (nI qz)] (some (.int (gainI c pz qz))) (hs σ 1 c) := by
  refine CS.of (cc := cX5_gain) (maxL := 3) (ret := (some .int)) (by decide) rfl (Nat.le_of_ble_eq_true rfl) ?_
  intro p_ e_ s_ m_ args_ below_ meth_ c_
  refine v_eq (pc' := 0) (st' := []) rfl rfl ?_
  refine v_loc [0, 1, 2] [(0, .ref (G 0)), (1, .int (nI pz)), (2, .int (nI qz))] rfl ?_
  refine v_aload_n 0 dX5_gain_0 rfl rfl ?_
  refine v_iload_n 1 dX5_gain_1 rfl rfl ?_
  refine v_iload_n 2 dX5_gain_2 rfl rfl ?_
  refine u_callVn [.int (nI pz), .int (nI qz)] [] 2 (c_X5_requireTrade lu Dg E N G shp σ hS c hI (pz := pz) (qz := qz) hz hw hm) (ci := 5) (C := RX5) (T := TX5) (NF := 6) hS.o.1 hS.o.2 rfl gX5_gain_X5_requireTrade rfl rfl rfl (by decide +kernel) rfl ⟨Nat.le_of_ble_eq_true rfl, Nat.le_of_ble_eq_true rfl⟩ ⟨Nat.le_of_ble_eq_true rfl, Nat.le_of_ble_eq_true rfl⟩ (Nat.le_of_ble_eq_true rfl) rfl dX5_gain_3 ?_
  refine v_aload_n 0 dX5_gain_6 rfl rfl ?_
  refine u_getr (k := 0) (C := RX5) (T := TX5) (NF := 6) hS.o.1 hS.o.2 rfl rfl inX5_gain_X5 (by decide) (by decide +kernel) rfl dX5_gain_7 ?_
  refine v_iload_n 1 dX5_gain_10 rfl rfl ?_
  refine v_iload_n 2 dX5_gain_11 rfl rfl ?_
  refine u_callVv [.int (nI pz), .int (nI qz)] [] 2 (c_X1_profit lu Dg E N G shp σ hS.h c hI (p := pz) (q := qz) hz hw hm) (ci := 1) (C := RX1) (T := TX1) (NF := 11) hS.h.n hS.h.s rfl gX5_gain_X1_profit rfl rfl rfl (by decide +kernel) rfl ⟨Nat.le_of_ble_eq_true rfl, Nat.le_of_ble_eq_true rfl⟩ ⟨Nat.le_of_ble_eq_true rfl, Nat.le_of_ble_eq_true rfl⟩ (Nat.le_of_ble_eq_true rfl) rfl dX5_gain_12 ?_
  refine v_iret rfl dX5_gain_15 ⟨congrArg (fun z => some (Value.int z)) ?_, congrArg (φ shp) ?_⟩
  · rfl
  · rfl
set_option maxRecDepth 100000 in
theorem inX5_partner_X5 : ∀ w ∈ wsX50, w ∈ wsX5_partner := by decide +kernel
set_option maxHeartbeats 4000000 in
set_option maxRecDepth 100000 in
theorem c_X5_partner_0 (lu : Launch) (Dg : va_G) (E : Nat → ClassId) (N : Nat) (G : Nat → Nat) (shp : Nat → (Nat → Int32) → va_E) (σ : Nat → Nat → Int32) (hS : StoodS E G shp N) (c : Nat → Int32) {T : Nat} (hI : Inv T c) {pz : Nat} (hz : pz < tn (c 2))  : CS lu yX5_partner wsX5_partner { frames := 6, cells := 0, slots := 0, locals := 141 } Dg E N G shp (hs σ 1 c) [.ref (G 0), .int (nI pz)] (some (.int ((partB c pz (tn (c 2))).1))) (hs σ 1 c) := by
  refine CS.of (cc := cX5_partner) (maxL := 2) (ret := (some .int)) (by decide) rfl (Nat.le_of_ble_eq_true rfl) ?_
  intro p_ e_ s_ m_ args_ below_ meth_ c_
  refine v_eq (pc' := 0) (st' := []) rfl rfl ?_
  refine v_loc [0, 1] [(0, .ref (G 0)), (1, .int (nI pz))] rfl ?_
  refine v_aload_n 0 dX5_partner_0 rfl rfl ?_
  refine v_iload_n 1 dX5_partner_1 rfl rfl ?_
  refine u_callVn [.int (nI pz)] [] 1 (c_X5_requirePerson lu Dg E N G shp σ hS c hI (pz := pz) hz) (ci := 5) (C := RX5) (T := TX5) (NF := 6) hS.o.1 hS.o.2 rfl gX5_partner_X5_requirePerson rfl rfl rfl (by decide +kernel) rfl ⟨Nat.le_of_ble_eq_true rfl, Nat.le_of_ble_eq_true rfl⟩ ⟨Nat.le_of_ble_eq_true rfl, Nat.le_of_ble_eq_true rfl⟩ (Nat.le_of_ble_eq_true rfl) rfl dX5_partner_2 ?_
  refine v_aload_n 0 dX5_partner_5 rfl rfl ?_
  refine u_getr (k := 0) (C := RX5) (T := TX5) (NF := 6) hS.o.1 hS.o.2 rfl rfl inX5_partner_X5 (by decide) (by decide +kernel) rfl dX5_partner_6 ?_
  refine v_iload_n 1 dX5_partner_9 rfl rfl ?_
  refine u_callVv [.int (nI pz)] [] 1 (c_X1_bestPartner lu Dg E N G shp σ hS.h c hI (p := pz) hz) (ci := 1) (C := RX1) (T := TX1) (NF := 11) hS.h.n hS.h.s rfl gX5_partner_X1_bestPartner rfl rfl rfl (by decide +kernel) rfl ⟨Nat.le_of_ble_eq_true rfl, Nat.le_of_ble_eq_true rfl⟩ ⟨Nat.le_of_ble_eq_true rfl, Nat.le_of_ble_eq_true rfl⟩ (Nat.le_of_ble_eq_true rfl) rfl dX5_partner_10 ?_
  refine v_iret rfl dX5_partner_13 ⟨congrArg (fun z => some (Value.int z)) ?_, congrArg (φ shp) ?_⟩
  · rfl
  · rfl
