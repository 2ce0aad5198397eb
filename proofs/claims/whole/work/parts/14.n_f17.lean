set_option maxRecDepth 100000 in
theorem inX5_errorPosition_X5 : ∀ w ∈ wsX50, w ∈ wsX5_errorPosition := by decide +kernel
set_option maxHeartbeats 4000000 in
set_option maxRecDepth 100000 in
theorem c_X5_errorPosition_w (lu : Launch) (Dg : va_G) (E : Nat → ClassId) (N : Nat) (G : Nat → Nat) (shp : Nat → (Nat → Int32) → va_E) (σ : Nat → Nat → Int32) (hS : StoodS E G shp N) (c : Nat → Int32)  {lz : Nat} (hl : σ 779 1 = nI lz) (h100 : lz ≤ 100) (hw : ¬ tkB (σ 780) lz (nI 87) (nI 87) (0))  : CS lu yX5_errorPosition wsX5_errorPosition { frames := 5, cells := 0, slots := 0, locals := 107 } Dg E N G shp (hs σ 1 c) [.ref (G 0)] (some (.int (nI 0))) (hs (st2 σ 779 2 (nI (0))) 1 c) := by
  refine CS.of (cc := cX5_errorPosition) (maxL := 1) (ret := (some .int)) (by decide) rfl (Nat.le_of_ble_eq_true rfl) ?_
  intro p_ e_ s_ m_ args_ below_ meth_ c_
  refine v_eq (pc' := 0) (st' := []) rfl rfl ?_
  refine v_loc [0] [(0, .ref (G 0))] rfl ?_
  have e9 : hs σ 1 c (779 + 1) = σ 780 := hs_out (by omega)
  refine v_aload_n 0 dX5_errorPosition_0 rfl rfl ?_
  refine u_getr (k := 5) (C := RX5) (T := TX5) (NF := 6) hS.o.1 hS.o.2 rfl rfl inX5_errorPosition_X5 (by decide) (by decide +kernel) rfl dX5_errorPosition_1 ?_
  refine u_callVv [] [] 0 ((c_X0_firstError_w lu Dg E N G shp (hs σ 1 c) hS.d (lz := lz) (by rw [hs_out (by omega)]; exact hl) h100 (by rw [e9]; exact hw)).ans rfl (st2_hs (by omega))) (ci := 0) (C := RX0) (T := TX0) (NF := 3) hS.d.n hS.d.2.1 rfl gX5_errorPosition_X0_firstError rfl rfl rfl (by decide +kernel) rfl ⟨Nat.le_of_ble_eq_true rfl, Nat.le_of_ble_eq_true rfl⟩ ⟨Nat.le_of_ble_eq_true rfl, Nat.le_of_ble_eq_true rfl⟩ (Nat.le_of_ble_eq_true rfl) rfl dX5_errorPosition_4 ?_
  refine v_iret rfl dX5_errorPosition_7 ⟨congrArg (fun z => some (Value.int z)) ?_, congrArg (φ shp) ?_⟩
  · rfl
  · rfl

set_option maxHeartbeats 4000000 in
set_option maxRecDepth 100000 in
theorem c_X5_errorPosition_d (lu : Launch) (Dg : va_G) (E : Nat → ClassId) (N : Nat) (G : Nat → Nat) (shp : Nat → (Nat → Int32) → va_E) (σ : Nat → Nat → Int32) (hS : StoodS E G shp N) (c : Nat → Int32)  {lz : Nat} (hl : σ 779 1 = nI lz) (h100 : lz ≤ 100) (hw : tkB (σ 780) lz (nI 87) (nI 87) (0)) (hd : ¬ tkB (σ 780) lz (nI 49) (nI 51) (0 + 1))  : CS lu yX5_errorPosition wsX5_errorPosition { frames := 5, cells := 0, slots := 0, locals := 107 } Dg E N G shp (hs σ 1 c) [.ref (G 0)] (some (.int (nI 1))) (hs (st2 σ 779 2 (nI (1))) 1 c) := by
  refine CS.of (cc := cX5_errorPosition) (maxL := 1) (ret := (some .int)) (by decide) rfl (Nat.le_of_ble_eq_true rfl) ?_
  intro p_ e_ s_ m_ args_ below_ meth_ c_
  refine v_eq (pc' := 0) (st' := []) rfl rfl ?_
  refine v_loc [0] [(0, .ref (G 0))] rfl ?_
  have e9 : hs σ 1 c (779 + 1) = σ 780 := hs_out (by omega)
  refine v_aload_n 0 dX5_errorPosition_0 rfl rfl ?_
  refine u_getr (k := 5) (C := RX5) (T := TX5) (NF := 6) hS.o.1 hS.o.2 rfl rfl inX5_errorPosition_X5 (by decide) (by decide +kernel) rfl dX5_errorPosition_1 ?_
  refine u_callVv [] [] 0 ((c_X0_firstError_d lu Dg E N G shp (hs σ 1 c) hS.d (lz := lz) (by rw [hs_out (by omega)]; exact hl) h100 (by rw [e9]; exact hw) (by rw [e9]; exact hd)).ans rfl (st2_hs (by omega))) (ci := 0) (C := RX0) (T := TX0) (NF := 3) hS.d.n hS.d.2.1 rfl gX5_errorPosition_X0_firstError rfl rfl rfl (by decide +kernel) rfl ⟨Nat.le_of_ble_eq_true rfl, Nat.le_of_ble_eq_true rfl⟩ ⟨Nat.le_of_ble_eq_true rfl, Nat.le_of_ble_eq_true rfl⟩ (Nat.le_of_ble_eq_true rfl) rfl dX5_errorPosition_4 ?_
  refine v_iret rfl dX5_errorPosition_7 ⟨congrArg (fun z => some (Value.int z)) ?_, congrArg (φ shp) ?_⟩
  · rfl
  · rfl

set_option maxHeartbeats 4000000 in
set_option maxRecDepth 100000 in
theorem c_X5_errorPosition_l (lu : Launch) (Dg : va_G) (E : Nat → ClassId) (N : Nat) (G : Nat → Nat) (shp : Nat → (Nat → Int32) → va_E) (σ : Nat → Nat → Int32) (hS : StoodS E G shp N) (c : Nat → Int32)  {lz : Nat} (hl : σ 779 1 = nI lz) (h100 : lz ≤ 100) {m : Nat} (hw : tkB (σ 780) lz (nI 87) (nI 87) (0)) (hd : tkB (σ 780) lz (nI 49) (nI 51) (0 + 1)) (q9 : chrT (σ 780) lz (0 + 1) - nI 48 = nI m) (hm : m ≤ 3) (hp2 : ¬ (pacR (σ 780) lz (0 + 1 + 1) m).2)  : CS lu yX5_errorPosition wsX5_errorPosition { frames := 5, cells := 0, slots := 0, locals := 107 } Dg E N G shp (hs σ 1 c) [.ref (G 0)] (some (.int (nI ((pacR (σ 780) lz (0 + 1 + 1) m).1)))) (hs (st2 σ 779 2 (nI ((pacR (σ 780) lz (0 + 1 + 1) m).1))) 1 c) := by
  refine CS.of (cc := cX5_errorPosition) (maxL := 1) (ret := (some .int)) (by decide) rfl (Nat.le_of_ble_eq_true rfl) ?_
  intro p_ e_ s_ m_ args_ below_ meth_ c_
  refine v_eq (pc' := 0) (st' := []) rfl rfl ?_
  refine v_loc [0] [(0, .ref (G 0))] rfl ?_
  have e9 : hs σ 1 c (779 + 1) = σ 780 := hs_out (by omega)
  refine v_aload_n 0 dX5_errorPosition_0 rfl rfl ?_
  refine u_getr (k := 5) (C := RX5) (T := TX5) (NF := 6) hS.o.1 hS.o.2 rfl rfl inX5_errorPosition_X5 (by decide) (by decide +kernel) rfl dX5_errorPosition_1 ?_
  refine u_callVv [] [] 0 ((c_X0_firstError_l lu Dg E N G shp (hs σ 1 c) hS.d (lz := lz) (by rw [hs_out (by omega)]; exact hl) h100 (m := m) (by rw [e9]; exact hw) (by rw [e9]; exact hd) (by rw [e9]; exact q9) hm (by rw [e9]; exact hp2)).ans (σ' := hs (st2 σ 779 2 (nI ((pacR (σ 780) lz (0 + 1 + 1) m).1))) 1 c) (by rw [e9]) (by rw [e9]; exact st2_hs (by omega))) (ci := 0) (C := RX0) (T := TX0) (NF := 3) hS.d.n hS.d.2.1 rfl gX5_errorPosition_X0_firstError rfl rfl rfl (by decide +kernel) rfl ⟨Nat.le_of_ble_eq_true rfl, Nat.le_of_ble_eq_true rfl⟩ ⟨Nat.le_of_ble_eq_true rfl, Nat.le_of_ble_eq_true rfl⟩ (Nat.le_of_ble_eq_true rfl) rfl dX5_errorPosition_4 ?_
  refine v_iret rfl dX5_errorPosition_7 ⟨congrArg (fun z => some (Value.int z)) ?_, congrArg (φ shp) ?_⟩
  · rfl
  · rfl

set_option maxHeartbeats 4000000 in
set_option maxRecDepth 100000 in
theorem c_X5_errorPosition_0 (lu : Launch) (Dg : va_G) (E : Nat → ClassId) (N : Nat) (G : Nat → Nat) (shp : Nat → (Nat → Int32) → va_E) (σ : Nat → Nat → Int32) (hS : StoodS E G shp N) (c : Nat → Int32)  {lz : Nat} (hl : σ 779 1 = nI lz) (h100 : lz ≤ 100) {m : Nat} (hw : tkB (σ 780) lz (nI 87) (nI 87) (0)) (hd : tkB (σ 780) lz (nI 49) (nI 51) (0 + 1)) (q9 : chrT (σ 780) lz (0 + 1) - nI 48 = nI m) (hm : m ≤ 3) (hp2 : (pacR (σ 780) lz (0 + 1 + 1) m).2)  : CS lu yX5_errorPosition wsX5_errorPosition { frames := 5, cells := 0, slots := 0, locals := 107 } Dg E N G shp (hs σ 1 c) [.ref (G 0)] (some (.int (ic (comR (σ 780) lz (pacR (σ 780) lz (0 + 1 + 1) m).1 100).2 (-1) (nI (comR (σ 780) lz (pacR (σ 780) lz (0 + 1 + 1) m).1 100).1)))) (hs (st2 σ 779 2 (nI ((comR (σ 780) lz (pacR (σ 780) lz (0 + 1 + 1) m).1 100).1))) 1 c) := by
  refine CS.of (cc := cX5_errorPosition) (maxL := 1) (ret := (some .int)) (by decide) rfl (Nat.le_of_ble_eq_true rfl) ?_
  intro p_ e_ s_ m_ args_ below_ meth_ c_
  refine v_eq (pc' := 0) (st' := []) rfl rfl ?_
  refine v_loc [0] [(0, .ref (G 0))] rfl ?_
  have e9 : hs σ 1 c (779 + 1) = σ 780 := hs_out (by omega)
  refine v_aload_n 0 dX5_errorPosition_0 rfl rfl ?_
  refine u_getr (k := 5) (C := RX5) (T := TX5) (NF := 6) hS.o.1 hS.o.2 rfl rfl inX5_errorPosition_X5 (by decide) (by decide +kernel) rfl dX5_errorPosition_1 ?_
  refine u_callVv [] [] 0 ((c_X0_firstError_0 lu Dg E N G shp (hs σ 1 c) hS.d (lz := lz) (by rw [hs_out (by omega)]; exact hl) h100 (m := m) (by rw [e9]; exact hw) (by rw [e9]; exact hd) (by rw [e9]; exact q9) hm (by rw [e9]; exact hp2)).ans (σ' := hs (st2 σ 779 2 (nI ((comR (σ 780) lz (pacR (σ 780) lz (0 + 1 + 1) m).1 100).1))) 1 c) (by rw [e9]) (by rw [e9]; exact st2_hs (by omega))) (ci := 0) (C := RX0) (T := TX0) (NF := 3) hS.d.n hS.d.2.1 rfl gX5_errorPosition_X0_firstError rfl rfl rfl (by decide +kernel) rfl ⟨Nat.le_of_ble_eq_true rfl, Nat.le_of_ble_eq_true rfl⟩ ⟨Nat.le_of_ble_eq_true rfl, Nat.le_of_ble_eq_true rfl⟩ (Nat.le_of_ble_eq_true rfl) rfl dX5_errorPosition_4 ?_
  refine v_iret rfl dX5_errorPosition_7 ⟨congrArg (fun z => some (Value.int z)) ?_, congrArg (φ shp) ?_⟩
  · rfl
  · rfl
