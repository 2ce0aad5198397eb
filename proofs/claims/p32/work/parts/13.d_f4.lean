set_option maxRecDepth 100000 in
theorem inX5_set_X5 : ∀ w ∈ wsX50, w ∈ wsX5_set := by decide +kernel
set_option maxHeartbeats 4000000 in
set_option maxRecDepth 100000 in
theorem c_X5_set_0 (lu : Launch) (Dg : va_G) (E : Nat → ClassId) (N : Nat) (G : Nat → Nat) (shp : Nat → (Nat → Int32) → va_E) (σ : Nat → Nat → Int32) (hS : StoodS E G shp N) (c : Nat → Int32) {kz : Nat} (hz : kz < 4) (y : Int32) (hy : stLeast kz ≤ y ∧ y ≤ stMost kz) {og rg : Nat} (hO : HistOk σ og rg)  : CS lu yX5_set wsX5_set { frames := 6, cells := 0, slots := 0, locals := 140 } Dg E N G shp (hs σ 1 c) [.ref (G 0), .int (nI kz), .int y] (some (.int (c (6 + kz)))) (hs (puH σ c og rg) 1 (upd c (6 + kz) y)) := by
  refine CS.of (cc := cX5_set) (maxL := 3) (ret := (some .int)) (by decide) rfl (Nat.le_of_ble_eq_true rfl) ?_
  intro p_ e_ s_ m_ args_ below_ meth_ c_
  refine v_eq (pc' := 0) (st' := []) rfl rfl ?_
  refine v_loc [0, 1, 2] [(0, .ref (G 0)), (1, .int (nI kz)), (2, .int y)] rfl ?_
  refine v_iload_n 1 dX5_set_0 rfl rfl ?_
  refine u_callSn [.int (nI kz)] [] 1 (c_X5_requireSetting lu Dg E N G shp (hs σ 1 c) (kz := kz) hz) gX5_set_X5_requireSetting rfl rfl rfl (by decide +kernel) rfl ⟨Nat.le_of_ble_eq_true rfl, Nat.le_of_ble_eq_true rfl⟩ ⟨Nat.le_of_ble_eq_true rfl, Nat.le_of_ble_eq_true rfl⟩ (Nat.le_of_ble_eq_true rfl) rfl dX5_set_1 ?_
  refine v_iload_n 2 dX5_set_4 rfl rfl ?_
  refine v_gets2 (by decide +kernel) dX5_set_5 (fun t2 ht2 => ?_)
  refine v_iload_n 1 dX5_set_8 rfl rfl ?_
  refine v_tld ht2 (by omega) (by decide) dX5_set_9 ?_
  refine v_icmp_lt 22 dX5_set_10 rfl (fun h10 => ?_) (fun h10 => ?_)
  · skip
    exact absurd h10 (Int32.not_lt.mpr hy.1)
  · skip
    refine v_iload_n 2 dX5_set_13 rfl rfl ?_
    refine v_gets3 (by decide +kernel) dX5_set_14 (fun t3 ht3 => ?_)
    refine v_iload_n 1 dX5_set_17 rfl rfl ?_
    refine v_tld ht3 (by omega) (by decide) dX5_set_18 ?_
    refine v_icmp_le 32 dX5_set_19 rfl (fun h19 => ?_) (fun h19 => ?_)
    · skip
      refine v_aload_n 0 dX5_set_32 rfl rfl ?_
      refine u_getr (k := 2) (C := RX5) (T := TX5) (NF := 6) hS.o.1 hS.o.2 rfl rfl inX5_set_X5 (by decide) (by decide +kernel) rfl dX5_set_33 ?_
      refine v_aload_n 0 dX5_set_36 rfl rfl ?_
      refine u_getr (k := 0) (C := RX5) (T := TX5) (NF := 6) hS.o.1 hS.o.2 rfl rfl inX5_set_X5 (by decide) (by decide +kernel) rfl dX5_set_37 ?_
      refine u_callVn [.ref (G 1)] [] 1 (c_rem lu Dg E N G shp σ hS c hO) (ci := 2) (C := RX2) (T := TX2) (NF := 3) (Nat.lt_of_succ_lt hS.y.1) hS.y.2.1 rfl gX5_set_X2_remember rfl rfl rfl (by decide +kernel) rfl ⟨Nat.le_of_ble_eq_true rfl, Nat.le_of_ble_eq_true rfl⟩ ⟨Nat.le_of_ble_eq_true rfl, Nat.le_of_ble_eq_true rfl⟩ (Nat.le_of_ble_eq_true rfl) rfl dX5_set_40 ?_
      refine v_aload_n 0 dX5_set_43 rfl rfl ?_
      refine u_getr (k := 0) (C := RX5) (T := TX5) (NF := 6) hS.o.1 hS.o.2 rfl rfl inX5_set_X5 (by decide) (by decide +kernel) rfl dX5_set_44 ?_
      refine v_iload_n 1 dX5_set_47 rfl rfl ?_
      refine v_iload_n 2 dX5_set_48 rfl rfl ?_
      refine u_callVv [.int (nI kz), .int y] [] 2 (c_X1_changeSetting lu Dg E N G shp (puH σ c og rg) hS.h c hz y) (ci := 1) (C := RX1) (T := TX1) (NF := 11) hS.h.n hS.h.s rfl gX5_set_X1_changeSetting rfl rfl rfl (by decide +kernel) rfl ⟨Nat.le_of_ble_eq_true rfl, Nat.le_of_ble_eq_true rfl⟩ ⟨Nat.le_of_ble_eq_true rfl, Nat.le_of_ble_eq_true rfl⟩ (Nat.le_of_ble_eq_true rfl) rfl dX5_set_49 ?_
      refine v_iret rfl dX5_set_52 ⟨congrArg (fun z => some (Value.int z)) ?_, congrArg (φ shp) ?_⟩
      · rfl
      · rfl
    · skip
      exact absurd hy.2 h19
set_option maxRecDepth 100000 in
theorem inX5_undo_X5 : ∀ w ∈ wsX50, w ∈ wsX5_undo := by decide +kernel
set_option maxHeartbeats 4000000 in
set_option maxRecDepth 100000 in
theorem c_X5_undo_0 (lu : Launch) (Dg : va_G) (E : Nat → ClassId) (N : Nat) (G : Nat → Nat) (shp : Nat → (Nat → Int32) → va_E) (σ : Nat → Nat → Int32) (hS : StoodS E G shp N) (c : Nat → Int32)  (d : Nat → Int32) {og rg : Nat} (ho : σ 87 1 = nI og) (ho14 : og < 14) (hr : σ 87 2 = nI (rg + 1)) (hr14 : rg < 14) (hd : HoldsAt σ (87 + 2 + 43 * ((og + rg) % 14)) d)  : CS lu yX5_undo wsX5_undo { frames := 5, cells := 0, slots := 0, locals := 120 } Dg E N G shp (hs σ 1 c) [.ref (G 0)] (some (.int (nI rg))) (hs (st2 σ 87 2 (nI rg)) 1 d) := by
  refine CS.of (cc := cX5_undo) (maxL := 1) (ret := (some .int)) (by decide) rfl (Nat.le_of_ble_eq_true rfl) ?_
  intro p_ e_ s_ m_ args_ below_ meth_ c_
  refine v_eq (pc' := 0) (st' := []) rfl rfl ?_
  refine v_loc [0] [(0, .ref (G 0))] rfl ?_
  refine v_aload_n 0 dX5_undo_0 rfl rfl ?_
  refine u_getr (k := 2) (C := RX5) (T := TX5) (NF := 6) hS.o.1 hS.o.2 rfl rfl inX5_undo_X5 (by decide) (by decide +kernel) rfl dX5_undo_1 ?_
  refine u_callVv [] [] 0 (c_X2_isEmpty lu Dg E N G shp (hs σ 1 c) hS.y (rz := rg + 1) (by rw [hs_out (by omega)]; exact hr) (by omega)) (ci := 2) (C := RX2) (T := TX2) (NF := 3) (Nat.lt_of_succ_lt hS.y.1) hS.y.2.1 rfl gX5_undo_X2_isEmpty rfl rfl rfl (by decide +kernel) rfl ⟨Nat.le_of_ble_eq_true rfl, Nat.le_of_ble_eq_true rfl⟩ ⟨Nat.le_of_ble_eq_true rfl, Nat.le_of_ble_eq_true rfl⟩ (Nat.le_of_ble_eq_true rfl) rfl dX5_undo_4 ?_
  refine v_if_eqB 20 dX5_undo_7 rfl (fun h7 => ?_) (fun h7 => ?_)
  · skip
    refine v_aload_n 0 dX5_undo_20 rfl rfl ?_
    refine u_getr (k := 2) (C := RX5) (T := TX5) (NF := 6) hS.o.1 hS.o.2 rfl rfl inX5_undo_X5 (by decide) (by decide +kernel) rfl dX5_undo_21 ?_
    refine v_aload_n 0 dX5_undo_24 rfl rfl ?_
    refine u_getr (k := 0) (C := RX5) (T := TX5) (NF := 6) hS.o.1 hS.o.2 rfl rfl inX5_undo_X5 (by decide) (by decide +kernel) rfl dX5_undo_25 ?_
    refine u_callVv [.ref (G 1)] [] 1 (c_X2_takeBack lu Dg E N G shp σ hS.y hS.h c d ho ho14 hr hr14 (fun i _ => Or.inl (by omega)) (Or.inr (by omega)) hd) (ci := 2) (C := RX2) (T := TX2) (NF := 3) (Nat.lt_of_succ_lt hS.y.1) hS.y.2.1 rfl gX5_undo_X2_takeBack rfl rfl rfl (by decide +kernel) rfl ⟨Nat.le_of_ble_eq_true rfl, Nat.le_of_ble_eq_true rfl⟩ ⟨Nat.le_of_ble_eq_true rfl, Nat.le_of_ble_eq_true rfl⟩ (Nat.le_of_ble_eq_true rfl) rfl dX5_undo_28 ?_
    refine v_iret rfl dX5_undo_31 ⟨congrArg (fun z => some (Value.int z)) ?_, congrArg (φ shp) ?_⟩
    · rfl
    · rfl
  · skip
    exact absurd h7 (by omega)
