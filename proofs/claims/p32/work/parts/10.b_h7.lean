theorem Inv.waitI {T : Nat} {s : Nat → Int32} {l k : Nat} (h : Inv T s) (hl : l < tn (s 1)) : s (10 + l) * nI (k + 1) - s (16 + l) = nI (tn (s (10 + l)) * (k + 1) - tn (s (16 + l))) := by
  have hw := h.workedP hl
  have e : tn (s (10 + l)) * (k + 1) = tn (s (10 + l)) * k + tn (s (10 + l)) := Nat.mul_succ _ _
  rw [h.pace hl, h.worked hl, pk_mul, pk_sub (by omega), tn_nI (by have := h.pace20 hl; omega), tn_nI (by have := h.pace20 hl; omega)]
theorem Inv.overI {T : Nat} {s : Nat → Int32} (h : Inv T s) {m : Nat} (hm : m < 2 ^ 29) : (0 ≤ nI m - s 6) ↔ tn (s 6) ≤ m := by
  have h99 := h.limit99
  rw [h.limit, tn_nI (by omega)]
  have et := pk_sub_toInt (a := m) (b := tn (s 6)) (by omega) (by omega)
  rw [Int32.le_iff_toInt_le, et, Int32.toInt_zero]
  omega
/-- after an exchange p stands where q stood -/
theorem Inv.waitX {T : Nat} {s : Nat → Int32} {p q : Nat} (h : Inv T s) (hp : p < tn (s 2)) (hq : q < tn (s 2)) (hm : MayX s p q) : waitN (exchS s p q) p = tn (s (10 + liN s p)) * (plc s q + 1) - tn (s (16 + liN s p)) := by
  obtain ⟨m1, m2, m3, m4, -⟩ := id hm
  obtain ⟨a1, a2, a3, a4, -⟩ := h.plcs hp m1
  obtain ⟨b1, b2, b3, b4, -⟩ := h.plcs hq m2
  have hli : liN s q = liN s p := by show tn _ = tn _; rw [m3]
  rw [hli] at b3 b4
  have hnl3 := h.nl3
  have h12 := h.len12 a1
  have hx := h.exch hp hq hm
  have e : ∀ x, x < 22 → x ≠ 3 → exchS s p q x = s x := fun x h1 h2 => by unfold exchS; rw [exchF_row _ (by omega) h2, if_neg (by omega), if_neg (by omega)]
  have ha := hx.at (l := liN s p) (k := plc s q) (p := p) (by rw [e 1 (by omega) (by omega)]; exact a1) (by rw [e (13 + liN s p) (by omega) (by omega)]; exact b3) (by unfold exchS; rw [exchF_row _ (by omega) (by omega), if_pos rfl]) (Nat.lt_of_lt_of_le hp h.np30)
  unfold waitN
  rw [ha.2.2.1, ha.2.2.2, e (10 + liN s p) (by omega) (by omega), e (16 + liN s p) (by omega) (by omega)]
set_option maxRecDepth 100000 in
theorem inX1_total_X1 : ∀ w ∈ wsX10, w ∈ wsX1_total := by decide +kernel
set_option maxHeartbeats 4000000 in
set_option maxRecDepth 100000 in
/-- Hall.total 0 -/
theorem c_X1_total_0 (lu : Launch) (Dg : va_G) (E : Nat → ClassId) (N : Nat) (G : Nat → Nat) (shp : Nat → (Nat → Int32) → va_E) (σ : Nat → Nat → Int32) {b : Nat} (hH : HallS E G shp N b) (c : Nat → Int32) {T : Nat} (hI : Inv T c)  : CS lu yX1_total wsX1_total { frames := 2, cells := 0, slots := 0, locals := 44 } Dg E N G shp (hs σ b c) [.ref (G b), .int (nI 0)] (some (.int (c 0))) (hs σ b c) := by
  refine CS.of (cc := cX1_total) (maxL := 2) (ret := (some .int)) (by decide) rfl (Nat.le_of_ble_eq_true rfl) ?_
  intro p_ e_ s_ m_ args_ below_ meth_ c_
  refine v_eq (pc' := 0) (st' := []) rfl rfl ?_
  refine v_loc [0, 1] [(0, .ref (G b)), (1, .int (nI 0))] rfl ?_
  refine v_iload_n 1 dX1_total_0 rfl rfl ?_
  refine v_tableIn (off := 55) 56 dX1_total_1 (by decide +kernel) (by decide +kernel) (by decide +kernel) rfl ?_
  refine v_aload_n 0 dX1_total_56 rfl rfl ?_
  refine h_geti (g := c) (k := 2) (c 0) hH rfl (hF2 _) inX1_total_X1 (by decide) (by decide +kernel) rfl dX1_total_57 ?_
  refine v_iret rfl dX1_total_60 ⟨congrArg (fun z => some (Value.int z)) ?_, congrArg (φ shp) ?_⟩
  · rfl
  · rfl
set_option maxHeartbeats 4000000 in
set_option maxRecDepth 100000 in
/-- Hall.total 1 -/
theorem c_X1_total_1 (lu : Launch) (Dg : va_G) (E : Nat → ClassId) (N : Nat) (G : Nat → Nat) (shp : Nat → (Nat → Int32) → va_E) (σ : Nat → Nat → Int32) {b : Nat} (hH : HallS E G shp N b) (c : Nat → Int32) {T : Nat} (hI : Inv T c)  : CS lu yX1_total wsX1_total { frames := 2, cells := 0, slots := 0, locals := 44 } Dg E N G shp (hs σ b c) [.ref (G b), .int (nI 1)] (some (.int (c 1))) (hs σ b c) := by
  refine CS.of (cc := cX1_total) (maxL := 2) (ret := (some .int)) (by decide) rfl (Nat.le_of_ble_eq_true rfl) ?_
  intro p_ e_ s_ m_ args_ below_ meth_ c_
  refine v_eq (pc' := 0) (st' := []) rfl rfl ?_
  refine v_loc [0, 1] [(0, .ref (G b)), (1, .int (nI 1))] rfl ?_
  refine v_iload_n 1 dX1_total_0 rfl rfl ?_
  refine v_tableIn (off := 60) 61 dX1_total_1 (by decide +kernel) (by decide +kernel) (by decide +kernel) rfl ?_
  refine v_aload_n 0 dX1_total_61 rfl rfl ?_
  refine h_geti (g := c) (k := 0) (c 1) hH rfl (hF0 _) inX1_total_X1 (by decide) (by decide +kernel) rfl dX1_total_62 ?_
  refine v_iret rfl dX1_total_65 ⟨congrArg (fun z => some (Value.int z)) ?_, congrArg (φ shp) ?_⟩
  · rfl
  · rfl
set_option maxHeartbeats 4000000 in
set_option maxRecDepth 100000 in
/-- Hall.total 2 -/
theorem c_X1_total_2 (lu : Launch) (Dg : va_G) (E : Nat → ClassId) (N : Nat) (G : Nat → Nat) (shp : Nat → (Nat → Int32) → va_E) (σ : Nat → Nat → Int32) {b : Nat} (hH : HallS E G shp N b) (c : Nat → Int32) {T : Nat} (hI : Inv T c)  : CS lu yX1_total wsX1_total { frames := 2, cells := 0, slots := 0, locals := 44 } Dg E N G shp (hs σ b c) [.ref (G b), .int (nI 2)] (some (.int (c 2))) (hs σ b c) := by
  refine CS.of (cc := cX1_total) (maxL := 2) (ret := (some .int)) (by decide) rfl (Nat.le_of_ble_eq_true rfl) ?_
  intro p_ e_ s_ m_ args_ below_ meth_ c_
  refine v_eq (pc' := 0) (st' := []) rfl rfl ?_
  refine v_loc [0, 1] [(0, .ref (G b)), (1, .int (nI 2))] rfl ?_
  refine v_iload_n 1 dX1_total_0 rfl rfl ?_
  refine v_tableIn (off := 65) 66 dX1_total_1 (by decide +kernel) (by decide +kernel) (by decide +kernel) rfl ?_
  refine v_aload_n 0 dX1_total_66 rfl rfl ?_
  refine h_geti (g := c) (k := 1) (c 2) hH rfl (hF1 _) inX1_total_X1 (by decide) (by decide +kernel) rfl dX1_total_67 ?_
  refine v_iret rfl dX1_total_70 ⟨congrArg (fun z => some (Value.int z)) ?_, congrArg (φ shp) ?_⟩
  · rfl
  · rfl
set_option maxHeartbeats 4000000 in
set_option maxRecDepth 100000 in
/-- Hall.total 3 -/
theorem c_X1_total_3 (lu : Launch) (Dg : va_G) (E : Nat → ClassId) (N : Nat) (G : Nat → Nat) (shp : Nat → (Nat → Int32) → va_E) (σ : Nat → Nat → Int32) {b : Nat} (hH : HallS E G shp N b) (c : Nat → Int32) {T : Nat} (hI : Inv T c)  : CS lu yX1_total wsX1_total { frames := 2, cells := 0, slots := 0, locals := 44 } Dg E N G shp (hs σ b c) [.ref (G b), .int (nI 3)] (some (.int (nI (standN c (nI 0) (tn (c 2)))))) (hs σ b c) := by
  refine CS.of (cc := cX1_total) (maxL := 2) (ret := (some .int)) (by decide) rfl (Nat.le_of_ble_eq_true rfl) ?_
  intro p_ e_ s_ m_ args_ below_ meth_ c_
  refine v_eq (pc' := 0) (st' := []) rfl rfl ?_
  refine v_loc [0, 1] [(0, .ref (G b)), (1, .int (nI 3))] rfl ?_
  refine v_iload_n 1 dX1_total_0 rfl rfl ?_
  refine v_tableIn (off := 70) 71 dX1_total_1 (by decide +kernel) (by decide +kernel) (by decide +kernel) rfl ?_
  refine v_aload_n 0 dX1_total_71 rfl rfl ?_
  refine v_iconst (nI 0) dX1_total_72 (by decide +kernel) ?_
  refine u_callVv [.int (nI 0)] [] 1 (c_X1_count lu Dg E N G shp σ hH c hI (nI 0)) (ci := 1) (C := RX1) (T := TX1) (NF := 11) hH.n hH.s rfl gX1_total_X1_count rfl rfl rfl (by decide +kernel) rfl ⟨Nat.le_of_ble_eq_true rfl, Nat.le_of_ble_eq_true rfl⟩ ⟨Nat.le_of_ble_eq_true rfl, Nat.le_of_ble_eq_true rfl⟩ (Nat.le_of_ble_eq_true rfl) rfl dX1_total_73 ?_
  refine v_iret rfl dX1_total_76 ⟨congrArg (fun z => some (Value.int z)) ?_, congrArg (φ shp) ?_⟩
  · rfl
  · rfl
set_option maxHeartbeats 4000000 in
set_option maxRecDepth 100000 in
/-- Hall.total 4 -/
theorem c_X1_total_4 (lu : Launch) (Dg : va_G) (E : Nat → ClassId) (N : Nat) (G : Nat → Nat) (shp : Nat → (Nat → Int32) → va_E) (σ : Nat → Nat → Int32) {b : Nat} (hH : HallS E G shp N b) (c : Nat → Int32) {T : Nat} (hI : Inv T c)  : CS lu yX1_total wsX1_total { frames := 2, cells := 0, slots := 0, locals := 44 } Dg E N G shp (hs σ b c) [.ref (G b), .int (nI 4)] (some (.int (nI (standN c (nI 1) (tn (c 2)))))) (hs σ b c) := by
  refine CS.of (cc := cX1_total) (maxL := 2) (ret := (some .int)) (by decide) rfl (Nat.le_of_ble_eq_true rfl) ?_
  intro p_ e_ s_ m_ args_ below_ meth_ c_
  refine v_eq (pc' := 0) (st' := []) rfl rfl ?_
  refine v_loc [0, 1] [(0, .ref (G b)), (1, .int (nI 4))] rfl ?_
  refine v_iload_n 1 dX1_total_0 rfl rfl ?_
  refine v_tableIn (off := 76) 77 dX1_total_1 (by decide +kernel) (by decide +kernel) (by decide +kernel) rfl ?_
  refine v_aload_n 0 dX1_total_77 rfl rfl ?_
  refine v_iconst (nI 1) dX1_total_78 (by decide +kernel) ?_
  refine u_callVv [.int (nI 1)] [] 1 (c_X1_count lu Dg E N G shp σ hH c hI (nI 1)) (ci := 1) (C := RX1) (T := TX1) (NF := 11) hH.n hH.s rfl gX1_total_X1_count rfl rfl rfl (by decide +kernel) rfl ⟨Nat.le_of_ble_eq_true rfl, Nat.le_of_ble_eq_true rfl⟩ ⟨Nat.le_of_ble_eq_true rfl, Nat.le_of_ble_eq_true rfl⟩ (Nat.le_of_ble_eq_true rfl) rfl dX1_total_79 ?_
  refine v_iret rfl dX1_total_82 ⟨congrArg (fun z => some (Value.int z)) ?_, congrArg (φ shp) ?_⟩
  · rfl
  · rfl
set_option maxHeartbeats 4000000 in
set_option maxRecDepth 100000 in
/-- Hall.total 5 -/
theorem c_X1_total_5 (lu : Launch) (Dg : va_G) (E : Nat → ClassId) (N : Nat) (G : Nat → Nat) (shp : Nat → (Nat → Int32) → va_E) (σ : Nat → Nat → Int32) {b : Nat} (hH : HallS E G shp N b) (c : Nat → Int32) {T : Nat} (hI : Inv T c)  : CS lu yX1_total wsX1_total { frames := 2, cells := 0, slots := 0, locals := 44 } Dg E N G shp (hs σ b c) [.ref (G b), .int (nI 5)] (some (.int (nI (standN c (nI 2) (tn (c 2)))))) (hs σ b c) := by
  refine CS.of (cc := cX1_total) (maxL := 2) (ret := (some .int)) (by decide) rfl (Nat.le_of_ble_eq_true rfl) ?_
  intro p_ e_ s_ m_ args_ below_ meth_ c_
  refine v_eq (pc' := 0) (st' := []) rfl rfl ?_
  refine v_loc [0, 1] [(0, .ref (G b)), (1, .int (nI 5))] rfl ?_
  refine v_iload_n 1 dX1_total_0 rfl rfl ?_
  refine v_tableIn (off := 82) 83 dX1_total_1 (by decide +kernel) (by decide +kernel) (by decide +kernel) rfl ?_
  refine v_aload_n 0 dX1_total_83 rfl rfl ?_
  refine v_iconst (nI 2) dX1_total_84 (by decide +kernel) ?_
  refine u_callVv [.int (nI 2)] [] 1 (c_X1_count lu Dg E N G shp σ hH c hI (nI 2)) (ci := 1) (C := RX1) (T := TX1) (NF := 11) hH.n hH.s rfl gX1_total_X1_count rfl rfl rfl (by decide +kernel) rfl ⟨Nat.le_of_ble_eq_true rfl, Nat.le_of_ble_eq_true rfl⟩ ⟨Nat.le_of_ble_eq_true rfl, Nat.le_of_ble_eq_true rfl⟩ (Nat.le_of_ble_eq_true rfl) rfl dX1_total_85 ?_
  refine v_iret rfl dX1_total_88 ⟨congrArg (fun z => some (Value.int z)) ?_, congrArg (φ shp) ?_⟩
  · rfl
  · rfl
set_option maxHeartbeats 4000000 in
set_option maxRecDepth 100000 in
/-- Hall.total 6 -/
theorem c_X1_total_6 (lu : Launch) (Dg : va_G) (E : Nat → ClassId) (N : Nat) (G : Nat → Nat) (shp : Nat → (Nat → Int32) → va_E) (σ : Nat → Nat → Int32) {b : Nat} (hH : HallS E G shp N b) (c : Nat → Int32) {T : Nat} (hI : Inv T c)  : CS lu yX1_total wsX1_total { frames := 2, cells := 0, slots := 0, locals := 44 } Dg E N G shp (hs σ b c) [.ref (G b), .int (nI 6)] (some (.int (c 3))) (hs σ b c) := by
  refine CS.of (cc := cX1_total) (maxL := 2) (ret := (some .int)) (by decide) rfl (Nat.le_of_ble_eq_true rfl) ?_
  intro p_ e_ s_ m_ args_ below_ meth_ c_
  refine v_eq (pc' := 0) (st' := []) rfl rfl ?_
  refine v_loc [0, 1] [(0, .ref (G b)), (1, .int (nI 6))] rfl ?_
  refine v_iload_n 1 dX1_total_0 rfl rfl ?_
  refine v_tableIn (off := 88) 89 dX1_total_1 (by decide +kernel) (by decide +kernel) (by decide +kernel) rfl ?_
  refine v_aload_n 0 dX1_total_89 rfl rfl ?_
  refine h_geti (g := c) (k := 3) (c 3) hH rfl (hF3 _) inX1_total_X1 (by decide) (by decide +kernel) rfl dX1_total_90 ?_
  refine v_iret rfl dX1_total_93 ⟨congrArg (fun z => some (Value.int z)) ?_, congrArg (φ shp) ?_⟩
  · rfl
  · rfl
set_option maxHeartbeats 4000000 in
set_option maxRecDepth 100000 in
/-- Hall.total 7 -/
theorem c_X1_total_7 (lu : Launch) (Dg : va_G) (E : Nat → ClassId) (N : Nat) (G : Nat → Nat) (shp : Nat → (Nat → Int32) → va_E) (σ : Nat → Nat → Int32) {b : Nat} (hH : HallS E G shp N b) (c : Nat → Int32) {T : Nat} (hI : Inv T c)  : CS lu yX1_total wsX1_total { frames := 2, cells := 0, slots := 0, locals := 44 } Dg E N G shp (hs σ b c) [.ref (G b), .int (nI 7)] (some (.int (c 4))) (hs σ b c) := by
  refine CS.of (cc := cX1_total) (maxL := 2) (ret := (some .int)) (by decide) rfl (Nat.le_of_ble_eq_true rfl) ?_
  intro p_ e_ s_ m_ args_ below_ meth_ c_
  refine v_eq (pc' := 0) (st' := []) rfl rfl ?_
  refine v_loc [0, 1] [(0, .ref (G b)), (1, .int (nI 7))] rfl ?_
  refine v_iload_n 1 dX1_total_0 rfl rfl ?_
  refine v_tableIn (off := 93) 94 dX1_total_1 (by decide +kernel) (by decide +kernel) (by decide +kernel) rfl ?_
  refine v_aload_n 0 dX1_total_94 rfl rfl ?_
  refine h_geti (g := c) (k := 4) (c 4) hH rfl (hF4 _) inX1_total_X1 (by decide) (by decide +kernel) rfl dX1_total_95 ?_
  refine v_iret rfl dX1_total_98 ⟨congrArg (fun z => some (Value.int z)) ?_, congrArg (φ shp) ?_⟩
  · rfl
  · rfl
set_option maxHeartbeats 4000000 in
set_option maxRecDepth 100000 in
/-- Hall.total 8 -/
theorem c_X1_total_8 (lu : Launch) (Dg : va_G) (E : Nat → ClassId) (N : Nat) (G : Nat → Nat) (shp : Nat → (Nat → Int32) → va_E) (σ : Nat → Nat → Int32) {b : Nat} (hH : HallS E G shp N b) (c : Nat → Int32) {T : Nat} (hI : Inv T c)  : CS lu yX1_total wsX1_total { frames := 2, cells := 0, slots := 0, locals := 44 } Dg E N G shp (hs σ b c) [.ref (G b), .int (nI 8)] (some (.int (c 5))) (hs σ b c) := by
  refine CS.of (cc := cX1_total) (maxL := 2) (ret := (some .int)) (by decide) rfl (Nat.le_of_ble_eq_true rfl) ?_
  intro p_ e_ s_ m_ args_ below_ meth_ c_
  refine v_eq (pc' := 0) (st' := []) rfl rfl ?_
  refine v_loc [0, 1] [(0, .ref (G b)), (1, .int (nI 8))] rfl ?_
  refine v_iload_n 1 dX1_total_0 rfl rfl ?_
  refine v_tableIn (off := 98) 99 dX1_total_1 (by decide +kernel) (by decide +kernel) (by decide +kernel) rfl ?_
  refine v_aload_n 0 dX1_total_99 rfl rfl ?_
  refine h_geti (g := c) (k := 5) (c 5) hH rfl (hF5 _) inX1_total_X1 (by decide) (by decide +kernel) rfl dX1_total_100 ?_
  refine v_iret rfl dX1_total_103 ⟨congrArg (fun z => some (Value.int z)) ?_, congrArg (φ shp) ?_⟩
  · rfl
  · rfl
set_option maxHeartbeats 4000000 in
set_option maxRecDepth 100000 in
/-- Hall.total 9 -/
theorem c_X1_total_9 (lu : Launch) (Dg : va_G) (E : Nat → ClassId) (N : Nat) (G : Nat → Nat) (shp : Nat → (Nat → Int32) → va_E) (σ : Nat → Nat → Int32) {b : Nat} (hH : HallS E G shp N b) (c : Nat → Int32) {T : Nat} (hI : Inv T c)  : CS lu yX1_total wsX1_total { frames := 2, cells := 0, slots := 0, locals := 44 } Dg E N G shp (hs σ b c) [.ref (G b), .int (nI 9)] (some (.int (accN c (tn (c 2))))) (hs σ b c) := by
  refine CS.of (cc := cX1_total) (maxL := 2) (ret := (some .int)) (by decide) rfl (Nat.le_of_ble_eq_true rfl) ?_
  intro p_ e_ s_ m_ args_ below_ meth_ c_
  refine v_eq (pc' := 0) (st' := []) rfl rfl ?_
  refine v_loc [0, 1] [(0, .ref (G b)), (1, .int (nI 9))] rfl ?_
  refine v_iload_n 1 dX1_total_0 rfl rfl ?_
  refine v_tableIn (off := 103) 104 dX1_total_1 (by decide +kernel) (by decide +kernel) (by decide +kernel) rfl ?_
  refine v_aload_n 0 dX1_total_104 rfl rfl ?_
  refine u_callVv [] [] 0 (c_X1_sumOfAccounts lu Dg E N G shp σ hH c hI) (ci := 1) (C := RX1) (T := TX1) (NF := 11) hH.n hH.s rfl gX1_total_X1_sumOfAccounts rfl rfl rfl (by decide +kernel) rfl ⟨Nat.le_of_ble_eq_true rfl, Nat.le_of_ble_eq_true rfl⟩ ⟨Nat.le_of_ble_eq_true rfl, Nat.le_of_ble_eq_true rfl⟩ (Nat.le_of_ble_eq_true rfl) rfl dX1_total_105 ?_
  refine v_iret rfl dX1_total_108 ⟨congrArg (fun z => some (Value.int z)) ?_, congrArg (φ shp) ?_⟩
  · rfl
  · rfl
set_option maxRecDepth 100000 in
theorem inX1_numberOfLine_X3 : ∀ w ∈ wsX30, w ∈ wsX1_numberOfLine := by decide +kernel
set_option maxHeartbeats 4000000 in
set_option maxRecDepth 100000 in
/-- Hall.numberOfLine 0 -/
theorem c_X1_numberOfLine_0 (lu : Launch) (Dg : va_G) (E : Nat → ClassId) (N : Nat) (G : Nat → Nat) (shp : Nat → (Nat → Int32) → va_E) (σ : Nat → Nat → Int32) {b : Nat} (hH : HallS E G shp N b) (c : Nat → Int32) {T : Nat} (hI : Inv T c) {l : Nat} (hl : l < tn (c 1))  : CS lu yX1_numberOfLine wsX1_numberOfLine { frames := 3, cells := 0, slots := 0, locals := 65 } Dg E N G shp (hs σ b c) [.ref (G b), .int (nI l), .int (nI 0)] (some (.int (c (10 + l)))) (hs σ b c) := by
  refine CS.of (cc := cX1_numberOfLine) (maxL := 4) (ret := (some .int)) (by decide) rfl (Nat.le_of_ble_eq_true rfl) ?_
  intro p_ e_ s_ m_ args_ below_ meth_ c_
  refine v_eq (pc' := 0) (st' := []) rfl rfl ?_
  refine v_loc [0, 1, 2] [(0, .ref (G b)), (1, .int (nI l)), (2, .int (nI 0))] rfl ?_
  have hl3 := Nat.lt_of_lt_of_le hl hI.nl3
  refine v_aload_n 0 dX1_numberOfLine_0 rfl rfl ?_
  refine v_iload_n 1 dX1_numberOfLine_1 rfl rfl ?_
  refine u_callVv [.int (nI l)] [] 1 (c_X1_lineOf lu Dg E N G shp σ hH c (k := l) (by omega)) (ci := 1) (C := RX1) (T := TX1) (NF := 11) hH.n hH.s rfl gX1_numberOfLine_X1_lineOf rfl rfl rfl (by decide +kernel) rfl ⟨Nat.le_of_ble_eq_true rfl, Nat.le_of_ble_eq_true rfl⟩ ⟨Nat.le_of_ble_eq_true rfl, Nat.le_of_ble_eq_true rfl⟩ (Nat.le_of_ble_eq_true rfl) rfl dX1_numberOfLine_2 ?_
  refine v_astore_n [(3, .ref (G (b + 7 + 2 * l))), (0, .ref (G b)), (1, .int (nI l)), (2, .int (nI 0))] dX1_numberOfLine_5 rfl (by decide) rfl ?_
  refine v_iload_n 3 dX1_numberOfLine_6 rfl rfl ?_
  refine v_tableIn (off := 33) 40 dX1_numberOfLine_7 (by decide +kernel) (by decide +kernel) (by decide +kernel) rfl ?_
  refine v_aload_n 0 dX1_numberOfLine_40 rfl rfl ?_
  refine l_geti (g := c) (k := 0) (y := l) (by omega) (c (10 + l)) hH rfl (lF0 _ _) inX1_numberOfLine_X3 (by decide) (by decide +kernel) rfl dX1_numberOfLine_41 ?_
  refine v_iret rfl dX1_numberOfLine_44 ⟨congrArg (fun z => some (Value.int z)) ?_, congrArg (φ shp) ?_⟩
  · rfl
  · rfl
set_option maxHeartbeats 4000000 in
set_option maxRecDepth 100000 in
/-- Hall.numberOfLine 1 -/
theorem c_X1_numberOfLine_1 (lu : Launch) (Dg : va_G) (E : Nat → ClassId) (N : Nat) (G : Nat → Nat) (shp : Nat → (Nat → Int32) → va_E) (σ : Nat → Nat → Int32) {b : Nat} (hH : HallS E G shp N b) (c : Nat → Int32) {T : Nat} (hI : Inv T c) {l : Nat} (hl : l < tn (c 1))  : CS lu yX1_numberOfLine wsX1_numberOfLine { frames := 3, cells := 0, slots := 0, locals := 65 } Dg E N G shp (hs σ b c) [.ref (G b), .int (nI l), .int (nI 1)] (some (.int (c (13 + l)))) (hs σ b c) := by
  refine CS.of (cc := cX1_numberOfLine) (maxL := 4) (ret := (some .int)) (by decide) rfl (Nat.le_of_ble_eq_true rfl) ?_
  intro p_ e_ s_ m_ args_ below_ meth_ c_
  refine v_eq (pc' := 0) (st' := []) rfl rfl ?_
  refine v_loc [0, 1, 2] [(0, .ref (G b)), (1, .int (nI l)), (2, .int (nI 1))] rfl ?_
  have hl3 := Nat.lt_of_lt_of_le hl hI.nl3
  refine v_aload_n 0 dX1_numberOfLine_0 rfl rfl ?_
  refine v_iload_n 1 dX1_numberOfLine_1 rfl rfl ?_
  refine u_callVv [.int (nI l)] [] 1 (c_X1_lineOf lu Dg E N G shp σ hH c (k := l) (by omega)) (ci := 1) (C := RX1) (T := TX1) (NF := 11) hH.n hH.s rfl gX1_numberOfLine_X1_lineOf rfl rfl rfl (by decide +kernel) rfl ⟨Nat.le_of_ble_eq_true rfl, Nat.le_of_ble_eq_true rfl⟩ ⟨Nat.le_of_ble_eq_true rfl, Nat.le_of_ble_eq_true rfl⟩ (Nat.le_of_ble_eq_true rfl) rfl dX1_numberOfLine_2 ?_
  refine v_astore_n [(3, .ref (G (b + 7 + 2 * l))), (0, .ref (G b)), (1, .int (nI l)), (2, .int (nI 1))] dX1_numberOfLine_5 rfl (by decide) rfl ?_
  refine v_iload_n 3 dX1_numberOfLine_6 rfl rfl ?_
  refine v_tableIn (off := 38) 45 dX1_numberOfLine_7 (by decide +kernel) (by decide +kernel) (by decide +kernel) rfl ?_
  refine v_aload_n 0 dX1_numberOfLine_45 rfl rfl ?_
  refine l_geti (g := c) (k := 3) (y := l) (by omega) (c (13 + l)) hH rfl (lF3 _ _) inX1_numberOfLine_X3 (by decide) (by decide +kernel) rfl dX1_numberOfLine_46 ?_
  refine v_iret rfl dX1_numberOfLine_49 ⟨congrArg (fun z => some (Value.int z)) ?_, congrArg (φ shp) ?_⟩
  · rfl
  · rfl
set_option maxHeartbeats 4000000 in
set_option maxRecDepth 100000 in
/-- Hall.numberOfLine 2 -/
theorem c_X1_numberOfLine_2 (lu : Launch) (Dg : va_G) (E : Nat → ClassId) (N : Nat) (G : Nat → Nat) (shp : Nat → (Nat → Int32) → va_E) (σ : Nat → Nat → Int32) {b : Nat} (hH : HallS E G shp N b) (c : Nat → Int32) {T : Nat} (hI : Inv T c) {l : Nat} (hl : l < tn (c 1))  : CS lu yX1_numberOfLine wsX1_numberOfLine { frames := 3, cells := 0, slots := 0, locals := 65 } Dg E N G shp (hs σ b c) [.ref (G b), .int (nI l), .int (nI 2)] (some (.int (c (16 + l)))) (hs σ b c) := by
  refine CS.of (cc := cX1_numberOfLine) (maxL := 4) (ret := (some .int)) (by decide) rfl (Nat.le_of_ble_eq_true rfl) ?_
  intro p_ e_ s_ m_ args_ below_ meth_ c_
  refine v_eq (pc' := 0) (st' := []) rfl rfl ?_
  refine v_loc [0, 1, 2] [(0, .ref (G b)), (1, .int (nI l)), (2, .int (nI 2))] rfl ?_
  have hl3 := Nat.lt_of_lt_of_le hl hI.nl3
  refine v_aload_n 0 dX1_numberOfLine_0 rfl rfl ?_
  refine v_iload_n 1 dX1_numberOfLine_1 rfl rfl ?_
  refine u_callVv [.int (nI l)] [] 1 (c_X1_lineOf lu Dg E N G shp σ hH c (k := l) (by omega)) (ci := 1) (C := RX1) (T := TX1) (NF := 11) hH.n hH.s rfl gX1_numberOfLine_X1_lineOf rfl rfl rfl (by decide +kernel) rfl ⟨Nat.le_of_ble_eq_true rfl, Nat.le_of_ble_eq_true rfl⟩ ⟨Nat.le_of_ble_eq_true rfl, Nat.le_of_ble_eq_true rfl⟩ (Nat.le_of_ble_eq_true rfl) rfl dX1_numberOfLine_2 ?_
  refine v_astore_n [(3, .ref (G (b + 7 + 2 * l))), (0, .ref (G b)), (1, .int (nI l)), (2, .int (nI 2))] dX1_numberOfLine_5 rfl (by decide) rfl ?_
  refine v_iload_n 3 dX1_numberOfLine_6 rfl rfl ?_
  refine v_tableIn (off := 43) 50 dX1_numberOfLine_7 (by decide +kernel) (by decide +kernel) (by decide +kernel) rfl ?_
  refine v_aload_n 0 dX1_numberOfLine_50 rfl rfl ?_
  refine l_geti (g := c) (k := 1) (y := l) (by omega) (c (16 + l)) hH rfl (lF1 _ _) inX1_numberOfLine_X3 (by decide) (by decide +kernel) rfl dX1_numberOfLine_51 ?_
  refine v_iret rfl dX1_numberOfLine_54 ⟨congrArg (fun z => some (Value.int z)) ?_, congrArg (φ shp) ?_⟩
  · rfl
  · rfl
set_option maxHeartbeats 4000000 in
set_option maxRecDepth 100000 in
/-- Hall.numberOfLine 3 -/
theorem c_X1_numberOfLine_3 (lu : Launch) (Dg : va_G) (E : Nat → ClassId) (N : Nat) (G : Nat → Nat) (shp : Nat → (Nat → Int32) → va_E) (σ : Nat → Nat → Int32) {b : Nat} (hH : HallS E G shp N b) (c : Nat → Int32) {T : Nat} (hI : Inv T c) {l : Nat} (hl : l < tn (c 1))  : CS lu yX1_numberOfLine wsX1_numberOfLine { frames := 3, cells := 0, slots := 0, locals := 65 } Dg E N G shp (hs σ b c) [.ref (G b), .int (nI l), .int (nI 3)] (some (.int (c (19 + l)))) (hs σ b c) := by
  refine CS.of (cc := cX1_numberOfLine) (maxL := 4) (ret := (some .int)) (by decide) rfl (Nat.le_of_ble_eq_true rfl) ?_
  intro p_ e_ s_ m_ args_ below_ meth_ c_
  refine v_eq (pc' := 0) (st' := []) rfl rfl ?_
  refine v_loc [0, 1, 2] [(0, .ref (G b)), (1, .int (nI l)), (2, .int (nI 3))] rfl ?_
  have hl3 := Nat.lt_of_lt_of_le hl hI.nl3
  refine v_aload_n 0 dX1_numberOfLine_0 rfl rfl ?_
  refine v_iload_n 1 dX1_numberOfLine_1 rfl rfl ?_
  refine u_callVv [.int (nI l)] [] 1 (c_X1_lineOf lu Dg E N G shp σ hH c (k := l) (by omega)) (ci := 1) (C := RX1) (T := TX1) (NF := 11) hH.n hH.s rfl gX1_numberOfLine_X1_lineOf rfl rfl rfl (by decide +kernel) rfl ⟨Nat.le_of_ble_eq_true rfl, Nat.le_of_ble_eq_true rfl⟩ ⟨Nat.le_of_ble_eq_true rfl, Nat.le_of_ble_eq_true rfl⟩ (Nat.le_of_ble_eq_true rfl) rfl dX1_numberOfLine_2 ?_
  refine v_astore_n [(3, .ref (G (b + 7 + 2 * l))), (0, .ref (G b)), (1, .int (nI l)), (2, .int (nI 3))] dX1_numberOfLine_5 rfl (by decide) rfl ?_
  refine v_iload_n 3 dX1_numberOfLine_6 rfl rfl ?_
  refine v_tableIn (off := 48) 55 dX1_numberOfLine_7 (by decide +kernel) (by decide +kernel) (by decide +kernel) rfl ?_
  refine v_aload_n 0 dX1_numberOfLine_55 rfl rfl ?_
  refine l_geti (g := c) (k := 2) (y := l) (by omega) (c (19 + l)) hH rfl (lF2 _ _) inX1_numberOfLine_X3 (by decide) (by decide +kernel) rfl dX1_numberOfLine_56 ?_
  refine v_iret rfl dX1_numberOfLine_59 ⟨congrArg (fun z => some (Value.int z)) ?_, congrArg (φ shp) ?_⟩
  · rfl
  · rfl
set_option maxHeartbeats 4000000 in
set_option maxRecDepth 100000 in
/-- Hall.numberOfLine 4 -/
theorem c_X1_numberOfLine_4 (lu : Launch) (Dg : va_G) (E : Nat → ClassId) (N : Nat) (G : Nat → Nat) (shp : Nat → (Nat → Int32) → va_E) (σ : Nat → Nat → Int32) {b : Nat} (hH : HallS E G shp N b) (c : Nat → Int32) {T : Nat} (hI : Inv T c) {l : Nat} (hl : l < tn (c 1))  : CS lu yX1_numberOfLine wsX1_numberOfLine { frames := 3, cells := 0, slots := 0, locals := 65 } Dg E N G shp (hs σ b c) [.ref (G b), .int (nI l), .int (nI 4)] (some (.int (stoodN c l (tn (c (13 + l)))))) (hs σ b c) := by
  refine CS.of (cc := cX1_numberOfLine) (maxL := 4) (ret := (some .int)) (by decide) rfl (Nat.le_of_ble_eq_true rfl) ?_
  intro p_ e_ s_ m_ args_ below_ meth_ c_
  refine v_eq (pc' := 0) (st' := []) rfl rfl ?_
  refine v_loc [0, 1, 2] [(0, .ref (G b)), (1, .int (nI l)), (2, .int (nI 4))] rfl ?_
  have hl3 := Nat.lt_of_lt_of_le hl hI.nl3
  refine v_aload_n 0 dX1_numberOfLine_0 rfl rfl ?_
  refine v_iload_n 1 dX1_numberOfLine_1 rfl rfl ?_
  refine u_callVv [.int (nI l)] [] 1 (c_X1_lineOf lu Dg E N G shp σ hH c (k := l) (by omega)) (ci := 1) (C := RX1) (T := TX1) (NF := 11) hH.n hH.s rfl gX1_numberOfLine_X1_lineOf rfl rfl rfl (by decide +kernel) rfl ⟨Nat.le_of_ble_eq_true rfl, Nat.le_of_ble_eq_true rfl⟩ ⟨Nat.le_of_ble_eq_true rfl, Nat.le_of_ble_eq_true rfl⟩ (Nat.le_of_ble_eq_true rfl) rfl dX1_numberOfLine_2 ?_
  refine v_astore_n [(3, .ref (G (b + 7 + 2 * l))), (0, .ref (G b)), (1, .int (nI l)), (2, .int (nI 4))] dX1_numberOfLine_5 rfl (by decide) rfl ?_
  refine v_iload_n 3 dX1_numberOfLine_6 rfl rfl ?_
  refine v_tableIn (off := 53) 60 dX1_numberOfLine_7 (by decide +kernel) (by decide +kernel) (by decide +kernel) rfl ?_
  refine v_aload_n 1 dX1_numberOfLine_60 rfl rfl ?_
  refine v_aload_n 0 dX1_numberOfLine_61 rfl rfl ?_
  refine u_callVv [.ref (G (b + 7 + 2 * l))] [] 1 (c_X1_stoodTogether lu Dg E N G shp σ hH c hI hl) (ci := 1) (C := RX1) (T := TX1) (NF := 11) hH.n hH.s rfl gX1_numberOfLine_X1_stoodTogether rfl rfl rfl (by decide +kernel) rfl ⟨Nat.le_of_ble_eq_true rfl, Nat.le_of_ble_eq_true rfl⟩ ⟨Nat.le_of_ble_eq_true rfl, Nat.le_of_ble_eq_true rfl⟩ (Nat.le_of_ble_eq_true rfl) rfl dX1_numberOfLine_62 ?_
  refine v_iret rfl dX1_numberOfLine_65 ⟨congrArg (fun z => some (Value.int z)) ?_, congrArg (φ shp) ?_⟩
  · rfl
  · rfl
set_option maxRecDepth 100000 in
theorem inX1_numberOfPerson_X4 : ∀ w ∈ wsX40, w ∈ wsX1_numberOfPerson := by decide +kernel
set_option maxHeartbeats 4000000 in
set_option maxRecDepth 100000 in
/-- Hall.numberOfPerson 0 -/
theorem c_X1_numberOfPerson_0 (lu : Launch) (Dg : va_G) (E : Nat → ClassId) (N : Nat) (G : Nat → Nat) (shp : Nat → (Nat → Int32) → va_E) (σ : Nat → Nat → Int32) {b : Nat} (hH : HallS E G shp N b) (c : Nat → Int32) {T : Nat} (hI : Inv T c) {p : Nat} (hp : p < tn (c 2))  : CS lu yX1_numberOfPerson wsX1_numberOfPerson { frames := 2, cells := 0, slots := 0, locals := 43 } Dg E N G shp (hs σ b c) [.ref (G b), .int (nI p), .int (nI 0)] (some (.int (c (58 + 10 * p)))) (hs σ b c) := by
  refine CS.of (cc := cX1_numberOfPerson) (maxL := 4) (ret := (some .int)) (by decide) rfl (Nat.le_of_ble_eq_true rfl) ?_
  intro p_ e_ s_ m_ args_ below_ meth_ c_
  refine v_eq (pc' := 0) (st' := []) rfl rfl ?_
  refine v_loc [0, 1, 2] [(0, .ref (G b)), (1, .int (nI p)), (2, .int (nI 0))] rfl ?_
  have hp30 := Nat.lt_of_lt_of_le hp hI.np30
  refine v_aload_n 0 dX1_numberOfPerson_0 rfl rfl ?_
  refine v_iload_n 1 dX1_numberOfPerson_1 rfl rfl ?_
  refine u_callVv [.int (nI p)] [] 1 (c_X1_personOf lu Dg E N G shp σ hH c (k := p) (by omega)) (ci := 1) (C := RX1) (T := TX1) (NF := 11) hH.n hH.s rfl gX1_numberOfPerson_X1_personOf rfl rfl rfl (by decide +kernel) rfl ⟨Nat.le_of_ble_eq_true rfl, Nat.le_of_ble_eq_true rfl⟩ ⟨Nat.le_of_ble_eq_true rfl, Nat.le_of_ble_eq_true rfl⟩ (Nat.le_of_ble_eq_true rfl) rfl dX1_numberOfPerson_2 ?_
  refine v_astore_n [(3, .ref (G (b + 13 + p))), (0, .ref (G b)), (1, .int (nI p)), (2, .int (nI 0))] dX1_numberOfPerson_5 rfl (by decide) rfl ?_
  refine v_iload_n 3 dX1_numberOfPerson_6 rfl rfl ?_
  refine v_tableIn (off := 49) 56 dX1_numberOfPerson_7 (by decide +kernel) (by decide +kernel) (by decide +kernel) rfl ?_
  refine v_aload_n 0 dX1_numberOfPerson_56 rfl rfl ?_
  refine p_geti (g := c) (k := 0) (q := p) (by omega) (c (58 + 10 * p)) hH rfl (pF0 _ _) inX1_numberOfPerson_X4 (by decide) (by decide +kernel) rfl dX1_numberOfPerson_57 ?_
  refine v_iret rfl dX1_numberOfPerson_60 ⟨congrArg (fun z => some (Value.int z)) ?_, congrArg (φ shp) ?_⟩
  · rfl
  · rfl
set_option maxHeartbeats 4000000 in
set_option maxRecDepth 100000 in
/-- Hall.numberOfPerson 1 -/
theorem c_X1_numberOfPerson_1 (lu : Launch) (Dg : va_G) (E : Nat → ClassId) (N : Nat) (G : Nat → Nat) (shp : Nat → (Nat → Int32) → va_E) (σ : Nat → Nat → Int32) {b : Nat} (hH : HallS E G shp N b) (c : Nat → Int32) {T : Nat} (hI : Inv T c) {p : Nat} (hp : p < tn (c 2))  : CS lu yX1_numberOfPerson wsX1_numberOfPerson { frames := 2, cells := 0, slots := 0, locals := 43 } Dg E N G shp (hs σ b c) [.ref (G b), .int (nI p), .int (nI 1)] (some (.int (c (58 + 10 * p + 1)))) (hs σ b c) := by
  refine CS.of (cc := cX1_numberOfPerson) (maxL := 4) (ret := (some .int)) (by decide) rfl (Nat.le_of_ble_eq_true rfl) ?_
  intro p_ e_ s_ m_ args_ below_ meth_ c_
  refine v_eq (pc' := 0) (st' := []) rfl rfl ?_
  refine v_loc [0, 1, 2] [(0, .ref (G b)), (1, .int (nI p)), (2, .int (nI 1))] rfl ?_
  have hp30 := Nat.lt_of_lt_of_le hp hI.np30
  refine v_aload_n 0 dX1_numberOfPerson_0 rfl rfl ?_
  refine v_iload_n 1 dX1_numberOfPerson_1 rfl rfl ?_
  refine u_callVv [.int (nI p)] [] 1 (c_X1_personOf lu Dg E N G shp σ hH c (k := p) (by omega)) (ci := 1) (C := RX1) (T := TX1) (NF := 11) hH.n hH.s rfl gX1_numberOfPerson_X1_personOf rfl rfl rfl (by decide +kernel) rfl ⟨Nat.le_of_ble_eq_true rfl, Nat.le_of_ble_eq_true rfl⟩ ⟨Nat.le_of_ble_eq_true rfl, Nat.le_of_ble_eq_true rfl⟩ (Nat.le_of_ble_eq_true rfl) rfl dX1_numberOfPerson_2 ?_
  refine v_astore_n [(3, .ref (G (b + 13 + p))), (0, .ref (G b)), (1, .int (nI p)), (2, .int (nI 1))] dX1_numberOfPerson_5 rfl (by decide) rfl ?_
  refine v_iload_n 3 dX1_numberOfPerson_6 rfl rfl ?_
  refine v_tableIn (off := 54) 61 dX1_numberOfPerson_7 (by decide +kernel) (by decide +kernel) (by decide +kernel) rfl ?_
  refine v_aload_n 0 dX1_numberOfPerson_61 rfl rfl ?_
  refine p_geti (g := c) (k := 1) (q := p) (by omega) (c (58 + 10 * p + 1)) hH rfl (pF1 _ _) inX1_numberOfPerson_X4 (by decide) (by decide +kernel) rfl dX1_numberOfPerson_62 ?_
  refine v_iret rfl dX1_numberOfPerson_65 ⟨congrArg (fun z => some (Value.int z)) ?_, congrArg (φ shp) ?_⟩
  · rfl
  · rfl
set_option maxHeartbeats 4000000 in
set_option maxRecDepth 100000 in
/-- Hall.numberOfPerson 2 -/
theorem c_X1_numberOfPerson_2s (lu : Launch) (Dg : va_G) (E : Nat → ClassId) (N : Nat) (G : Nat → Nat) (shp : Nat → (Nat → Int32) → va_E) (σ : Nat → Nat → Int32) {b : Nat} (hH : HallS E G shp N b) (c : Nat → Int32) {T : Nat} (hI : Inv T c) {p : Nat} (hp : p < tn (c 2)) (hsd : c (58 + 10 * p + 5) = 0)  : CS lu yX1_numberOfPerson wsX1_numberOfPerson { frames := 2, cells := 0, slots := 0, locals := 43 } Dg E N G shp (hs σ b c) [.ref (G b), .int (nI p), .int (nI 2)] (some (.int (nI (plc c p)))) (hs σ b c) := by
  refine CS.of (cc := cX1_numberOfPerson) (maxL := 4) (ret := (some .int)) (by decide) rfl (Nat.le_of_ble_eq_true rfl) ?_
  intro p_ e_ s_ m_ args_ below_ meth_ c_
  refine v_eq (pc' := 0) (st' := []) rfl rfl ?_
  refine v_loc [0, 1, 2] [(0, .ref (G b)), (1, .int (nI p)), (2, .int (nI 2))] rfl ?_
  have hp30 := Nat.lt_of_lt_of_le hp hI.np30
  refine v_aload_n 0 dX1_numberOfPerson_0 rfl rfl ?_
  refine v_iload_n 1 dX1_numberOfPerson_1 rfl rfl ?_
  refine u_callVv [.int (nI p)] [] 1 (c_X1_personOf lu Dg E N G shp σ hH c (k := p) (by omega)) (ci := 1) (C := RX1) (T := TX1) (NF := 11) hH.n hH.s rfl gX1_numberOfPerson_X1_personOf rfl rfl rfl (by decide +kernel) rfl ⟨Nat.le_of_ble_eq_true rfl, Nat.le_of_ble_eq_true rfl⟩ ⟨Nat.le_of_ble_eq_true rfl, Nat.le_of_ble_eq_true rfl⟩ (Nat.le_of_ble_eq_true rfl) rfl dX1_numberOfPerson_2 ?_
  refine v_astore_n [(3, .ref (G (b + 13 + p))), (0, .ref (G b)), (1, .int (nI p)), (2, .int (nI 2))] dX1_numberOfPerson_5 rfl (by decide) rfl ?_
  refine v_iload_n 3 dX1_numberOfPerson_6 rfl rfl ?_
  refine v_tableIn (off := 59) 66 dX1_numberOfPerson_7 (by decide +kernel) (by decide +kernel) (by decide +kernel) rfl ?_
  refine v_aload_n 1 dX1_numberOfPerson_66 rfl rfl ?_
  refine v_iload_n 2 dX1_numberOfPerson_67 rfl rfl ?_
  refine u_callVv [.int (nI p)] [] 1 (c_X1_placeOf lu Dg E N G shp σ hH c hI (p := p) hp hsd) (ci := 1) (C := RX1) (T := TX1) (NF := 11) hH.n hH.s rfl gX1_numberOfPerson_X1_placeOf rfl rfl rfl (by decide +kernel) rfl ⟨Nat.le_of_ble_eq_true rfl, Nat.le_of_ble_eq_true rfl⟩ ⟨Nat.le_of_ble_eq_true rfl, Nat.le_of_ble_eq_true rfl⟩ (Nat.le_of_ble_eq_true rfl) rfl dX1_numberOfPerson_68 ?_
  refine v_iret rfl dX1_numberOfPerson_71 ⟨congrArg (fun z => some (Value.int z)) ?_, congrArg (φ shp) ?_⟩
  · rfl
  · rfl
set_option maxHeartbeats 4000000 in
set_option maxRecDepth 100000 in
/-- Hall.numberOfPerson 2 -/
theorem c_X1_numberOfPerson_2n (lu : Launch) (Dg : va_G) (E : Nat → ClassId) (N : Nat) (G : Nat → Nat) (shp : Nat → (Nat → Int32) → va_E) (σ : Nat → Nat → Int32) {b : Nat} (hH : HallS E G shp N b) (c : Nat → Int32) {T : Nat} (hI : Inv T c) {p : Nat} (hp : p < tn (c 2)) (hnl : σ (b + 4) 3 = nI 0) (hsd : ¬ c (58 + 10 * p + 5) = 0)  : CS lu yX1_numberOfPerson wsX1_numberOfPerson { frames := 2, cells := 0, slots := 0, locals := 43 } Dg E N G shp (hs σ b c) [.ref (G b), .int (nI p), .int (nI 2)] (some (.int ((-1)))) (hs σ b c) := by
  refine CS.of (cc := cX1_numberOfPerson) (maxL := 4) (ret := (some .int)) (by decide) rfl (Nat.le_of_ble_eq_true rfl) ?_
  intro p_ e_ s_ m_ args_ below_ meth_ c_
  refine v_eq (pc' := 0) (st' := []) rfl rfl ?_
  refine v_loc [0, 1, 2] [(0, .ref (G b)), (1, .int (nI p)), (2, .int (nI 2))] rfl ?_
  have hp30 := Nat.lt_of_lt_of_le hp hI.np30
  refine v_aload_n 0 dX1_numberOfPerson_0 rfl rfl ?_
  refine v_iload_n 1 dX1_numberOfPerson_1 rfl rfl ?_
  refine u_callVv [.int (nI p)] [] 1 (c_X1_personOf lu Dg E N G shp σ hH c (k := p) (by omega)) (ci := 1) (C := RX1) (T := TX1) (NF := 11) hH.n hH.s rfl gX1_numberOfPerson_X1_personOf rfl rfl rfl (by decide +kernel) rfl ⟨Nat.le_of_ble_eq_true rfl, Nat.le_of_ble_eq_true rfl⟩ ⟨Nat.le_of_ble_eq_true rfl, Nat.le_of_ble_eq_true rfl⟩ (Nat.le_of_ble_eq_true rfl) rfl dX1_numberOfPerson_2 ?_
  refine v_astore_n [(3, .ref (G (b + 13 + p))), (0, .ref (G b)), (1, .int (nI p)), (2, .int (nI 2))] dX1_numberOfPerson_5 rfl (by decide) rfl ?_
  refine v_iload_n 3 dX1_numberOfPerson_6 rfl rfl ?_
  refine v_tableIn (off := 59) 66 dX1_numberOfPerson_7 (by decide +kernel) (by decide +kernel) (by decide +kernel) rfl ?_
  refine v_aload_n 1 dX1_numberOfPerson_66 rfl rfl ?_
  refine v_iload_n 2 dX1_numberOfPerson_67 rfl rfl ?_
  refine u_callVv [.int (nI p)] [] 1 (c_X1_placeOf_n lu Dg E N G shp σ hH c hI hnl (p := p) hp hsd) (ci := 1) (C := RX1) (T := TX1) (NF := 11) hH.n hH.s rfl gX1_numberOfPerson_X1_placeOf rfl rfl rfl (by decide +kernel) rfl ⟨Nat.le_of_ble_eq_true rfl, Nat.le_of_ble_eq_true rfl⟩ ⟨Nat.le_of_ble_eq_true rfl, Nat.le_of_ble_eq_true rfl⟩ (Nat.le_of_ble_eq_true rfl) rfl dX1_numberOfPerson_68 ?_
  refine v_iret rfl dX1_numberOfPerson_71 ⟨congrArg (fun z => some (Value.int z)) ?_, congrArg (φ shp) ?_⟩
  · rfl
  · rfl
set_option maxHeartbeats 4000000 in
set_option maxRecDepth 100000 in
/-- Hall.numberOfPerson 3 -/
theorem c_X1_numberOfPerson_3 (lu : Launch) (Dg : va_G) (E : Nat → ClassId) (N : Nat) (G : Nat → Nat) (shp : Nat → (Nat → Int32) → va_E) (σ : Nat → Nat → Int32) {b : Nat} (hH : HallS E G shp N b) (c : Nat → Int32) {T : Nat} (hI : Inv T c) {p : Nat} (hp : p < tn (c 2))  : CS lu yX1_numberOfPerson wsX1_numberOfPerson { frames := 2, cells := 0, slots := 0, locals := 43 } Dg E N G shp (hs σ b c) [.ref (G b), .int (nI p), .int (nI 3)] (some (.int (c (58 + 10 * p + 2)))) (hs σ b c) := by
  refine CS.of (cc := cX1_numberOfPerson) (maxL := 4) (ret := (some .int)) (by decide) rfl (Nat.le_of_ble_eq_true rfl) ?_
  intro p_ e_ s_ m_ args_ below_ meth_ c_
  refine v_eq (pc' := 0) (st' := []) rfl rfl ?_
  refine v_loc [0, 1, 2] [(0, .ref (G b)), (1, .int (nI p)), (2, .int (nI 3))] rfl ?_
  have hp30 := Nat.lt_of_lt_of_le hp hI.np30
  refine v_aload_n 0 dX1_numberOfPerson_0 rfl rfl ?_
  refine v_iload_n 1 dX1_numberOfPerson_1 rfl rfl ?_
  refine u_callVv [.int (nI p)] [] 1 (c_X1_personOf lu Dg E N G shp σ hH c (k := p) (by omega)) (ci := 1) (C := RX1) (T := TX1) (NF := 11) hH.n hH.s rfl gX1_numberOfPerson_X1_personOf rfl rfl rfl (by decide +kernel) rfl ⟨Nat.le_of_ble_eq_true rfl, Nat.le_of_ble_eq_true rfl⟩ ⟨Nat.le_of_ble_eq_true rfl, Nat.le_of_ble_eq_true rfl⟩ (Nat.le_of_ble_eq_true rfl) rfl dX1_numberOfPerson_2 ?_
  refine v_astore_n [(3, .ref (G (b + 13 + p))), (0, .ref (G b)), (1, .int (nI p)), (2, .int (nI 3))] dX1_numberOfPerson_5 rfl (by decide) rfl ?_
  refine v_iload_n 3 dX1_numberOfPerson_6 rfl rfl ?_
  refine v_tableIn (off := 65) 72 dX1_numberOfPerson_7 (by decide +kernel) (by decide +kernel) (by decide +kernel) rfl ?_
  refine v_aload_n 0 dX1_numberOfPerson_72 rfl rfl ?_
  refine p_geti (g := c) (k := 3) (q := p) (by omega) (c (58 + 10 * p + 2)) hH rfl (pF3 _ _) inX1_numberOfPerson_X4 (by decide) (by decide +kernel) rfl dX1_numberOfPerson_73 ?_
  refine v_iret rfl dX1_numberOfPerson_76 ⟨congrArg (fun z => some (Value.int z)) ?_, congrArg (φ shp) ?_⟩
  · rfl
  · rfl
set_option maxHeartbeats 4000000 in
set_option maxRecDepth 100000 in
/-- Hall.numberOfPerson 4 -/
theorem c_X1_numberOfPerson_4 (lu : Launch) (Dg : va_G) (E : Nat → ClassId) (N : Nat) (G : Nat → Nat) (shp : Nat → (Nat → Int32) → va_E) (σ : Nat → Nat → Int32) {b : Nat} (hH : HallS E G shp N b) (c : Nat → Int32) {T : Nat} (hI : Inv T c) {p : Nat} (hp : p < tn (c 2))  : CS lu yX1_numberOfPerson wsX1_numberOfPerson { frames := 2, cells := 0, slots := 0, locals := 43 } Dg E N G shp (hs σ b c) [.ref (G b), .int (nI p), .int (nI 4)] (some (.int (c (58 + 10 * p + 3)))) (hs σ b c) := by
  refine CS.of (cc := cX1_numberOfPerson) (maxL := 4) (ret := (some .int)) (by decide) rfl (Nat.le_of_ble_eq_true rfl) ?_
  intro p_ e_ s_ m_ args_ below_ meth_ c_
  refine v_eq (pc' := 0) (st' := []) rfl rfl ?_
  refine v_loc [0, 1, 2] [(0, .ref (G b)), (1, .int (nI p)), (2, .int (nI 4))] rfl ?_
  have hp30 := Nat.lt_of_lt_of_le hp hI.np30
  refine v_aload_n 0 dX1_numberOfPerson_0 rfl rfl ?_
  refine v_iload_n 1 dX1_numberOfPerson_1 rfl rfl ?_
  refine u_callVv [.int (nI p)] [] 1 (c_X1_personOf lu Dg E N G shp σ hH c (k := p) (by omega)) (ci := 1) (C := RX1) (T := TX1) (NF := 11) hH.n hH.s rfl gX1_numberOfPerson_X1_personOf rfl rfl rfl (by decide +kernel) rfl ⟨Nat.le_of_ble_eq_true rfl, Nat.le_of_ble_eq_true rfl⟩ ⟨Nat.le_of_ble_eq_true rfl, Nat.le_of_ble_eq_true rfl⟩ (Nat.le_of_ble_eq_true rfl) rfl dX1_numberOfPerson_2 ?_
  refine v_astore_n [(3, .ref (G (b + 13 + p))), (0, .ref (G b)), (1, .int (nI p)), (2, .int (nI 4))] dX1_numberOfPerson_5 rfl (by decide) rfl ?_
  refine v_iload_n 3 dX1_numberOfPerson_6 rfl rfl ?_
  refine v_tableIn (off := 70) 77 dX1_numberOfPerson_7 (by decide +kernel) (by decide +kernel) (by decide +kernel) rfl ?_
  refine v_aload_n 0 dX1_numberOfPerson_77 rfl rfl ?_
  refine p_geti (g := c) (k := 4) (q := p) (by omega) (c (58 + 10 * p + 3)) hH rfl (pF4 _ _) inX1_numberOfPerson_X4 (by decide) (by decide +kernel) rfl dX1_numberOfPerson_78 ?_
  refine v_iret rfl dX1_numberOfPerson_81 ⟨congrArg (fun z => some (Value.int z)) ?_, congrArg (φ shp) ?_⟩
  · rfl
  · rfl
set_option maxHeartbeats 4000000 in
set_option maxRecDepth 100000 in
/-- Hall.numberOfPerson 5 -/
theorem c_X1_numberOfPerson_5 (lu : Launch) (Dg : va_G) (E : Nat → ClassId) (N : Nat) (G : Nat → Nat) (shp : Nat → (Nat → Int32) → va_E) (σ : Nat → Nat → Int32) {b : Nat} (hH : HallS E G shp N b) (c : Nat → Int32) {T : Nat} (hI : Inv T c) {p : Nat} (hp : p < tn (c 2))  : CS lu yX1_numberOfPerson wsX1_numberOfPerson { frames := 2, cells := 0, slots := 0, locals := 43 } Dg E N G shp (hs σ b c) [.ref (G b), .int (nI p), .int (nI 5)] (some (.int (c (58 + 10 * p + 4)))) (hs σ b c) := by
  refine CS.of (cc := cX1_numberOfPerson) (maxL := 4) (ret := (some .int)) (by decide) rfl (Nat.le_of_ble_eq_true rfl) ?_
  intro p_ e_ s_ m_ args_ below_ meth_ c_
  refine v_eq (pc' := 0) (st' := []) rfl rfl ?_
  refine v_loc [0, 1, 2] [(0, .ref (G b)), (1, .int (nI p)), (2, .int (nI 5))] rfl ?_
  have hp30 := Nat.lt_of_lt_of_le hp hI.np30
  refine v_aload_n 0 dX1_numberOfPerson_0 rfl rfl ?_
  refine v_iload_n 1 dX1_numberOfPerson_1 rfl rfl ?_
  refine u_callVv [.int (nI p)] [] 1 (c_X1_personOf lu Dg E N G shp σ hH c (k := p) (by omega)) (ci := 1) (C := RX1) (T := TX1) (NF := 11) hH.n hH.s rfl gX1_numberOfPerson_X1_personOf rfl rfl rfl (by decide +kernel) rfl ⟨Nat.le_of_ble_eq_true rfl, Nat.le_of_ble_eq_true rfl⟩ ⟨Nat.le_of_ble_eq_true rfl, Nat.le_of_ble_eq_true rfl⟩ (Nat.le_of_ble_eq_true rfl) rfl dX1_numberOfPerson_2 ?_
  refine v_astore_n [(3, .ref (G (b + 13 + p))), (0, .ref (G b)), (1, .int (nI p)), (2, .int (nI 5))] dX1_numberOfPerson_5 rfl (by decide) rfl ?_
  refine v_iload_n 3 dX1_numberOfPerson_6 rfl rfl ?_
  refine v_tableIn (off := 75) 82 dX1_numberOfPerson_7 (by decide +kernel) (by decide +kernel) (by decide +kernel) rfl ?_
  refine v_aload_n 0 dX1_numberOfPerson_82 rfl rfl ?_
  refine p_geti (g := c) (k := 5) (q := p) (by omega) (c (58 + 10 * p + 4)) hH rfl (pF5 _ _) inX1_numberOfPerson_X4 (by decide) (by decide +kernel) rfl dX1_numberOfPerson_83 ?_
  refine v_iret rfl dX1_numberOfPerson_86 ⟨congrArg (fun z => some (Value.int z)) ?_, congrArg (φ shp) ?_⟩
  · rfl
  · rfl
set_option maxHeartbeats 4000000 in
set_option maxRecDepth 100000 in
/-- Hall.numberOfPerson 6 -/
theorem c_X1_numberOfPerson_6 (lu : Launch) (Dg : va_G) (E : Nat → ClassId) (N : Nat) (G : Nat → Nat) (shp : Nat → (Nat → Int32) → va_E) (σ : Nat → Nat → Int32) {b : Nat} (hH : HallS E G shp N b) (c : Nat → Int32) {T : Nat} (hI : Inv T c) {p : Nat} (hp : p < tn (c 2))  : CS lu yX1_numberOfPerson wsX1_numberOfPerson { frames := 2, cells := 0, slots := 0, locals := 43 } Dg E N G shp (hs σ b c) [.ref (G b), .int (nI p), .int (nI 6)] (some (.int (c (58 + 10 * p + 5)))) (hs σ b c) := by
  refine CS.of (cc := cX1_numberOfPerson) (maxL := 4) (ret := (some .int)) (by decide) rfl (Nat.le_of_ble_eq_true rfl) ?_
  intro p_ e_ s_ m_ args_ below_ meth_ c_
  refine v_eq (pc' := 0) (st' := []) rfl rfl ?_
  refine v_loc [0, 1, 2] [(0, .ref (G b)), (1, .int (nI p)), (2, .int (nI 6))] rfl ?_
  have hp30 := Nat.lt_of_lt_of_le hp hI.np30
  refine v_aload_n 0 dX1_numberOfPerson_0 rfl rfl ?_
  refine v_iload_n 1 dX1_numberOfPerson_1 rfl rfl ?_
  refine u_callVv [.int (nI p)] [] 1 (c_X1_personOf lu Dg E N G shp σ hH c (k := p) (by omega)) (ci := 1) (C := RX1) (T := TX1) (NF := 11) hH.n hH.s rfl gX1_numberOfPerson_X1_personOf rfl rfl rfl (by decide +kernel) rfl ⟨Nat.le_of_ble_eq_true rfl, Nat.le_of_ble_eq_true rfl⟩ ⟨Nat.le_of_ble_eq_true rfl, Nat.le_of_ble_eq_true rfl⟩ (Nat.le_of_ble_eq_true rfl) rfl dX1_numberOfPerson_2 ?_
  refine v_astore_n [(3, .ref (G (b + 13 + p))), (0, .ref (G b)), (1, .int (nI p)), (2, .int (nI 6))] dX1_numberOfPerson_5 rfl (by decide) rfl ?_
  refine v_iload_n 3 dX1_numberOfPerson_6 rfl rfl ?_
  refine v_tableIn (off := 80) 87 dX1_numberOfPerson_7 (by decide +kernel) (by decide +kernel) (by decide +kernel) rfl ?_
  refine v_aload_n 0 dX1_numberOfPerson_87 rfl rfl ?_
  refine p_geti (g := c) (k := 2) (q := p) (by omega) (c (58 + 10 * p + 5)) hH rfl (pF2 _ _) inX1_numberOfPerson_X4 (by decide) (by decide +kernel) rfl dX1_numberOfPerson_88 ?_
  refine v_iret rfl dX1_numberOfPerson_91 ⟨congrArg (fun z => some (Value.int z)) ?_, congrArg (φ shp) ?_⟩
  · rfl
  · rfl
set_option maxHeartbeats 4000000 in
set_option maxRecDepth 100000 in
/-- Hall.numberOfPerson 7 -/
theorem c_X1_numberOfPerson_7 (lu : Launch) (Dg : va_G) (E : Nat → ClassId) (N : Nat) (G : Nat → Nat) (shp : Nat → (Nat → Int32) → va_E) (σ : Nat → Nat → Int32) {b : Nat} (hH : HallS E G shp N b) (c : Nat → Int32) {T : Nat} (hI : Inv T c) {p : Nat} (hp : p < tn (c 2))  : CS lu yX1_numberOfPerson wsX1_numberOfPerson { frames := 2, cells := 0, slots := 0, locals := 43 } Dg E N G shp (hs σ b c) [.ref (G b), .int (nI p), .int (nI 7)] (some (.int (c (58 + 10 * p + 6)))) (hs σ b c) := by
  refine CS.of (cc := cX1_numberOfPerson) (maxL := 4) (ret := (some .int)) (by decide) rfl (Nat.le_of_ble_eq_true rfl) ?_
  intro p_ e_ s_ m_ args_ below_ meth_ c_
  refine v_eq (pc' := 0) (st' := []) rfl rfl ?_
  refine v_loc [0, 1, 2] [(0, .ref (G b)), (1, .int (nI p)), (2, .int (nI 7))] rfl ?_
  have hp30 := Nat.lt_of_lt_of_le hp hI.np30
  refine v_aload_n 0 dX1_numberOfPerson_0 rfl rfl ?_
  refine v_iload_n 1 dX1_numberOfPerson_1 rfl rfl ?_
  refine u_callVv [.int (nI p)] [] 1 (c_X1_personOf lu Dg E N G shp σ hH c (k := p) (by omega)) (ci := 1) (C := RX1) (T := TX1) (NF := 11) hH.n hH.s rfl gX1_numberOfPerson_X1_personOf rfl rfl rfl (by decide +kernel) rfl ⟨Nat.le_of_ble_eq_true rfl, Nat.le_of_ble_eq_true rfl⟩ ⟨Nat.le_of_ble_eq_true rfl, Nat.le_of_ble_eq_true rfl⟩ (Nat.le_of_ble_eq_true rfl) rfl dX1_numberOfPerson_2 ?_
  refine v_astore_n [(3, .ref (G (b + 13 + p))), (0, .ref (G b)), (1, .int (nI p)), (2, .int (nI 7))] dX1_numberOfPerson_5 rfl (by decide) rfl ?_
  refine v_iload_n 3 dX1_numberOfPerson_6 rfl rfl ?_
  refine v_tableIn (off := 85) 92 dX1_numberOfPerson_7 (by decide +kernel) (by decide +kernel) (by decide +kernel) rfl ?_
  refine v_aload_n 0 dX1_numberOfPerson_92 rfl rfl ?_
  refine p_geti (g := c) (k := 6) (q := p) (by omega) (c (58 + 10 * p + 6)) hH rfl (pF6 _ _) inX1_numberOfPerson_X4 (by decide) (by decide +kernel) rfl dX1_numberOfPerson_93 ?_
  refine v_iret rfl dX1_numberOfPerson_96 ⟨congrArg (fun z => some (Value.int z)) ?_, congrArg (φ shp) ?_⟩
  · rfl
  · rfl
set_option maxHeartbeats 4000000 in
set_option maxRecDepth 100000 in
/-- Hall.numberOfPerson 8 -/
theorem c_X1_numberOfPerson_8 (lu : Launch) (Dg : va_G) (E : Nat → ClassId) (N : Nat) (G : Nat → Nat) (shp : Nat → (Nat → Int32) → va_E) (σ : Nat → Nat → Int32) {b : Nat} (hH : HallS E G shp N b) (c : Nat → Int32) {T : Nat} (hI : Inv T c) {p : Nat} (hp : p < tn (c 2))  : CS lu yX1_numberOfPerson wsX1_numberOfPerson { frames := 2, cells := 0, slots := 0, locals := 43 } Dg E N G shp (hs σ b c) [.ref (G b), .int (nI p), .int (nI 8)] (some (.int (c (58 + 10 * p + 7)))) (hs σ b c) := by
  refine CS.of (cc := cX1_numberOfPerson) (maxL := 4) (ret := (some .int)) (by decide) rfl (Nat.le_of_ble_eq_true rfl) ?_
  intro p_ e_ s_ m_ args_ below_ meth_ c_
  refine v_eq (pc' := 0) (st' := []) rfl rfl ?_
  refine v_loc [0, 1, 2] [(0, .ref (G b)), (1, .int (nI p)), (2, .int (nI 8))] rfl ?_
  have hp30 := Nat.lt_of_lt_of_le hp hI.np30
  refine v_aload_n 0 dX1_numberOfPerson_0 rfl rfl ?_
  refine v_iload_n 1 dX1_numberOfPerson_1 rfl rfl ?_
  refine u_callVv [.int (nI p)] [] 1 (c_X1_personOf lu Dg E N G shp σ hH c (k := p) (by omega)) (ci := 1) (C := RX1) (T := TX1) (NF := 11) hH.n hH.s rfl gX1_numberOfPerson_X1_personOf rfl rfl rfl (by decide +kernel) rfl ⟨Nat.le_of_ble_eq_true rfl, Nat.le_of_ble_eq_true rfl⟩ ⟨Nat.le_of_ble_eq_true rfl, Nat.le_of_ble_eq_true rfl⟩ (Nat.le_of_ble_eq_true rfl) rfl dX1_numberOfPerson_2 ?_
  refine v_astore_n [(3, .ref (G (b + 13 + p))), (0, .ref (G b)), (1, .int (nI p)), (2, .int (nI 8))] dX1_numberOfPerson_5 rfl (by decide) rfl ?_
  refine v_iload_n 3 dX1_numberOfPerson_6 rfl rfl ?_
  refine v_tableIn (off := 90) 97 dX1_numberOfPerson_7 (by decide +kernel) (by decide +kernel) (by decide +kernel) rfl ?_
  refine v_aload_n 0 dX1_numberOfPerson_97 rfl rfl ?_
  refine p_geti (g := c) (k := 7) (q := p) (by omega) (c (58 + 10 * p + 7)) hH rfl (pF7 _ _) inX1_numberOfPerson_X4 (by decide) (by decide +kernel) rfl dX1_numberOfPerson_98 ?_
  refine v_iret rfl dX1_numberOfPerson_101 ⟨congrArg (fun z => some (Value.int z)) ?_, congrArg (φ shp) ?_⟩
  · rfl
  · rfl
set_option maxRecDepth 100000 in
theorem inX1_waitOf_X4 : ∀ w ∈ wsX40, w ∈ wsX1_waitOf := by decide +kernel
set_option maxHeartbeats 4000000 in
set_option maxRecDepth 100000 in
/-- Hall.waitOf -/
theorem c_X1_waitOf (lu : Launch) (Dg : va_G) (E : Nat → ClassId) (N : Nat) (G : Nat → Nat) (shp : Nat → (Nat → Int32) → va_E) (σ : Nat → Nat → Int32) {b : Nat} (hH : HallS E G shp N b) (c : Nat → Int32) {T : Nat} (hI : Inv T c) {p : Nat} (hp : p < tn (c 2)) (hsd : c (58 + 10 * p + 5) = 0)  : CS lu yX1_waitOf wsX1_waitOf { frames := 2, cells := 0, slots := 0, locals := 43 } Dg E N G shp (hs σ b c) [.ref (G b), .int (nI p)] (some (.int (nI (waitN c p)))) (hs σ b c) := by
  refine CS.of (cc := cX1_waitOf) (maxL := 2) (ret := (some .int)) (by decide) rfl (Nat.le_of_ble_eq_true rfl) ?_
  intro p_ e_ s_ m_ args_ below_ meth_ c_
  refine v_eq (pc' := 0) (st' := []) rfl rfl ?_
  refine v_loc [0, 1] [(0, .ref (G b)), (1, .int (nI p))] rfl ?_
  have hq := hI.plcs hp hsd
  have hp30 := Nat.lt_of_lt_of_le hp hI.np30
  have hl3 := Nat.lt_of_lt_of_le hq.1 hI.nl3
  refine v_aload_n 0 dX1_waitOf_0 rfl rfl ?_
  refine v_aload_n 0 dX1_waitOf_1 rfl rfl ?_
  refine v_iload_n 1 dX1_waitOf_2 rfl rfl ?_
  refine u_callVv [.int (nI p)] [.ref (G b)] 1 (c_X1_personOf lu Dg E N G shp σ hH c (k := p) (by omega)) (ci := 1) (C := RX1) (T := TX1) (NF := 11) hH.n hH.s rfl gX1_waitOf_X1_personOf rfl rfl rfl (by decide +kernel) rfl ⟨Nat.le_of_ble_eq_true rfl, Nat.le_of_ble_eq_true rfl⟩ ⟨Nat.le_of_ble_eq_true rfl, Nat.le_of_ble_eq_true rfl⟩ (Nat.le_of_ble_eq_true rfl) rfl dX1_waitOf_3 ?_
  refine p_geti (g := c) (k := 1) (q := p) (by omega) (c (58 + 10 * p + 1)) hH rfl (pF1 _ _) inX1_waitOf_X4 (by decide) (by decide +kernel) rfl dX1_waitOf_6 ?_
  refine v_topi (nI (liN c p)) (hq.2.1) ?_
  refine u_callVv [.int (nI (liN c p))] [] 1 (c_X1_lineOf lu Dg E N G shp σ hH c (k := liN c p) (by omega)) (ci := 1) (C := RX1) (T := TX1) (NF := 11) hH.n hH.s rfl gX1_waitOf_X1_lineOf rfl rfl rfl (by decide +kernel) rfl ⟨Nat.le_of_ble_eq_true rfl, Nat.le_of_ble_eq_true rfl⟩ ⟨Nat.le_of_ble_eq_true rfl, Nat.le_of_ble_eq_true rfl⟩ (Nat.le_of_ble_eq_true rfl) rfl dX1_waitOf_9 ?_
  refine v_aload_n 0 dX1_waitOf_12 rfl rfl ?_
  refine v_iload_n 1 dX1_waitOf_13 rfl rfl ?_
  refine u_callVv [.int (nI p)] [.ref (G (b + 7 + 2 * (liN c p)))] 1 (c_X1_placeOf lu Dg E N G shp σ hH c hI (p := p) hp hsd) (ci := 1) (C := RX1) (T := TX1) (NF := 11) hH.n hH.s rfl gX1_waitOf_X1_placeOf rfl rfl rfl (by decide +kernel) rfl ⟨Nat.le_of_ble_eq_true rfl, Nat.le_of_ble_eq_true rfl⟩ ⟨Nat.le_of_ble_eq_true rfl, Nat.le_of_ble_eq_true rfl⟩ (Nat.le_of_ble_eq_true rfl) rfl dX1_waitOf_14 ?_
  refine u_callVv [.int (nI (plc c p))] [] 1 (c_X3_waitAt lu Dg E N G shp σ hH c (l := liN c p) hl3 (plc c p)) (ci := 3) (C := RX3) (T := TX3) (NF := 5) (hH.li (l := liN c p) (by omega)).n (hH.li (l := liN c p) (by omega)).2.1 rfl gX1_waitOf_X3_waitAt rfl rfl rfl (by decide +kernel) rfl ⟨Nat.le_of_ble_eq_true rfl, Nat.le_of_ble_eq_true rfl⟩ ⟨Nat.le_of_ble_eq_true rfl, Nat.le_of_ble_eq_true rfl⟩ (Nat.le_of_ble_eq_true rfl) rfl dX1_waitOf_17 ?_
  refine v_iret rfl dX1_waitOf_20 ⟨congrArg (fun z => some (Value.int z)) ?_, congrArg (φ shp) ?_⟩
  · exact hI.waitI hq.1
  · rfl
set_option maxRecDepth 100000 in
theorem inX1_feesUpTo_X1 : ∀ w ∈ wsX10, w ∈ wsX1_feesUpTo := by decide +kernel
set_option maxHeartbeats 4000000 in
set_option maxRecDepth 100000 in
/-- Hall.feesUpTo -/
theorem c_X1_feesUpTo (lu : Launch) (Dg : va_G) (E : Nat → ClassId) (N : Nat) (G : Nat → Nat) (shp : Nat → (Nat → Int32) → va_E) (σ : Nat → Nat → Int32) {b : Nat} (hH : HallS E G shp N b) (c : Nat → Int32) {T : Nat} (hI : Inv T c) {m : Nat} (hm : m < 2 ^ 29)  : CS lu yX1_feesUpTo wsX1_feesUpTo { frames := 0, cells := 0, slots := 0, locals := 0 } Dg E N G shp (hs σ b c) [.ref (G b), .int (nI m)] (some (.int (nI (feeF (tn (c 6)) m)))) (hs σ b c) := by
  refine CS.of (cc := cX1_feesUpTo) (maxL := 3) (ret := (some .int)) (by decide) rfl (Nat.le_of_ble_eq_true rfl) ?_
  intro p_ e_ s_ m_ args_ below_ meth_ c_
  refine v_eq (pc' := 0) (st' := []) rfl rfl ?_
  refine v_loc [0, 1] [(0, .ref (G b)), (1, .int (nI m))] rfl ?_
  refine v_iload_n 1 dX1_feesUpTo_0 rfl rfl ?_
  refine v_aload_n 0 dX1_feesUpTo_1 rfl rfl ?_
  refine u_getr (k := 6) (C := RX1) (T := TX1) (NF := 11) hH.n hH.s rfl rfl inX1_feesUpTo_X1 (by decide) (by decide +kernel) rfl dX1_feesUpTo_2 ?_
  refine v_iconst (nI 0) dX1_feesUpTo_5 (by decide +kernel) ?_
  refine s_ld 0 hH (rfl) (by omega) dX1_feesUpTo_6 ?_
  refine v_isub dX1_feesUpTo_7 ?_
  refine v_istore_n [(2, .int ((nI m) - (c (6)))), (0, .ref (G b)), (1, .int (nI m))] dX1_feesUpTo_8 rfl (by decide) rfl ?_
  refine v_iload_n 0 dX1_feesUpTo_9 rfl rfl ?_
  refine v_if_ge 17 dX1_feesUpTo_10 rfl (fun h10 => ?_) (fun h10 => ?_)
  · skip
    have hle := (hI.overI (by omega)).mp h10
    refine v_iload_n 0 dX1_feesUpTo_17 rfl rfl ?_
    refine v_bipush (nI 10) dX1_feesUpTo_18 (by decide +kernel) ?_
    refine v_idiv dX1_feesUpTo_20 (by decide +kernel) ?_
    refine v_topi (nI ((m - tn (c 6)) / 10)) ((by have h9 := hI.limit; have h99 := hI.limit99; rw [h9, tn_nI (by omega), pk_sub (by rw [h9, tn_nI (by omega)] at hle; exact hle), pk_div (by omega) (by omega) (by omega)])) ?_
    refine v_iconst (nI 1) dX1_feesUpTo_21 (by decide +kernel) ?_
    refine v_iaddN dX1_feesUpTo_22 ?_
    refine v_iret rfl dX1_feesUpTo_23 ⟨congrArg (fun z => some (Value.int z)) ?_, congrArg (φ shp) ?_⟩
    · exact congrArg nI (by unfold feeF; rw [if_neg (by omega)])
    · rfl
  · skip
    have hle : ¬ tn (c 6) ≤ m := fun z => h10 ((hI.overI (by omega)).mpr z)
    refine v_iconst (nI 0) dX1_feesUpTo_13 (by decide +kernel) ?_
    refine v_goto 23 dX1_feesUpTo_14 rfl ?_
    refine v_iret rfl dX1_feesUpTo_23 ⟨congrArg (fun z => some (Value.int z)) ?_, congrArg (φ shp) ?_⟩
    · exact congrArg nI (by unfold feeF; rw [if_pos (by omega)])
    · rfl
set_option maxRecDepth 100000 in
theorem inX1_feesWithin_X1 : ∀ w ∈ wsX10, w ∈ wsX1_feesWithin := by decide +kernel
set_option maxRecDepth 100000 in
theorem inX1_feesWithin_X4 : ∀ w ∈ wsX40, w ∈ wsX1_feesWithin := by decide +kernel
set_option maxHeartbeats 4000000 in
set_option maxRecDepth 100000 in
/-- Hall.feesWithin -/
theorem c_X1_feesWithin (lu : Launch) (Dg : va_G) (E : Nat → ClassId) (N : Nat) (G : Nat → Nat) (shp : Nat → (Nat → Int32) → va_E) (σ : Nat → Nat → Int32) {b : Nat} (hH : HallS E G shp N b) (c : Nat → Int32) {T : Nat} (hI : Inv T c) {n0 : Nat} (hn0 : n0 ≤ 999)  : CS lu yX1_feesWithin wsX1_feesWithin { frames := 3, cells := 0, slots := 0, locals := 64 } Dg E N G shp (hs σ b c) [.ref (G b), .int (nI n0)] (some (.int (nI (sumN (payN c n0) (tn (c 2))) * c 7))) (hs σ b c) := by
  refine CS.of (cc := cX1_feesWithin) (maxL := 6) (ret := (some .int)) (by decide) rfl (Nat.le_of_ble_eq_true rfl) ?_
  intro p_ e_ s_ m_ args_ below_ meth_ c_
  refine v_eq (pc' := 0) (st' := []) rfl rfl ?_
  refine v_loc [0, 1] [(0, .ref (G b)), (1, .int (nI n0))] rfl ?_
  have hnp30 := hI.np30
  have hnowT := hI.nowT
  have hT6 := hI.T6
  refine v_iconst (nI 0) dX1_feesWithin_0 (by decide +kernel) ?_
  refine v_istore_n [(2, .int (nI 0)), (0, .ref (G b)), (1, .int (nI n0))] dX1_feesWithin_1 rfl (by decide) rfl ?_
  refine v_iconst (nI 0) dX1_feesWithin_2 (by decide +kernel) ?_
  refine v_istore_n [(3, .int (nI 0)), (2, .int (nI (sumN (payN c n0) 0))), (0, .ref (G b)), (1, .int (nI n0))] dX1_feesWithin_3 rfl (by decide) rfl ?_
  refine v_loc [0, 1, 3, 2] [(3, .int (nI 0)), (2, .int (nI (sumN (payN c n0) 0))), (1, .int (nI n0)), (0, .ref (G b))] rfl ?_
  refine u_loop1 (fun n (k : Nat) => k + n = tn (c 2)) (fun (k : Nat) => hs σ b c) (fun (k : Nat) => [(3, .int (nI k)), (2, .int (nI (sumN (payN c n0) k))), (1, .int (nI n0)), (0, .ref (G b))]) (tn (c 2)) 0 ((by omega)) ?_
  intro n k hL ih
  refine v_iload_n 0 dX1_feesWithin_4 rfl rfl ?_
  refine v_aload_n 3 dX1_feesWithin_5 rfl rfl ?_
  refine h_geti (g := c) (k := 1) (c 2) hH rfl (hF1 _) inX1_feesWithin_X1 (by decide) (by decide +kernel) rfl dX1_feesWithin_6 ?_
  refine v_topi (nI (tn (c 2))) (hI.np) ?_
  refine v_icmp_geN 68 (by omega) (by omega) dX1_feesWithin_9 rfl (fun h9 => ?_) (fun h9 => ?_)
  · skip
    refine v_iload_n 1 dX1_feesWithin_68 rfl rfl ?_
    refine v_aload_n 3 dX1_feesWithin_69 rfl rfl ?_
    refine u_getr (k := 6) (C := RX1) (T := TX1) (NF := 11) hH.n hH.s rfl rfl inX1_feesWithin_X1 (by decide) (by decide +kernel) rfl dX1_feesWithin_70 ?_
    refine v_iconst (nI 1) dX1_feesWithin_73 (by decide +kernel) ?_
    refine s_ld 1 hH (rfl) (by omega) dX1_feesWithin_74 ?_
    refine v_imul dX1_feesWithin_75 ?_
    refine v_iret rfl dX1_feesWithin_76 ⟨congrArg (fun z => some (Value.int z)) ?_, congrArg (φ shp) ?_⟩
    · obtain rfl : k = tn (c 2) := (by omega); rfl
    · rfl
  · skip
    refine v_aload_n 3 dX1_feesWithin_12 rfl rfl ?_
    refine v_iload_n 0 dX1_feesWithin_13 rfl rfl ?_
    refine u_callVv [.int (nI k)] [] 1 (c_X1_stands lu Dg E N G shp σ hH c hI.np hI.np30 (p := k) (by omega)) (ci := 1) (C := RX1) (T := TX1) (NF := 11) hH.n hH.s rfl gX1_feesWithin_X1_stands rfl rfl rfl (by decide +kernel) rfl ⟨Nat.le_of_ble_eq_true rfl, Nat.le_of_ble_eq_true rfl⟩ ⟨Nat.le_of_ble_eq_true rfl, Nat.le_of_ble_eq_true rfl⟩ (Nat.le_of_ble_eq_true rfl) rfl dX1_feesWithin_14 ?_
    refine v_if_eqB 62 dX1_feesWithin_17 rfl (fun h17 => ?_) (fun h17 => ?_)
    · skip
      refine v_locv 2 (nI (sumN (payN c n0) (k + 1))) 1 [(3, .int (nI k)), (2, .int (nI (sumN (payN c n0) (k + 1)))), (1, .int (nI n0)), (0, .ref (G b))] rfl (congrArg nI (by rw [sumN, payN, ic_f (fun z => h17 ⟨by omega, z⟩)]; rfl)) rfl ?_
      refine v_iincN 0 [(3, .int (nI (k + 1))), (2, .int (nI (sumN (payN c n0) (k + 1)))), (1, .int (nI n0)), (0, .ref (G b))] dX1_feesWithin_62 rfl (by decide) rfl ?_
      refine v_goto 4 dX1_feesWithin_65 rfl ?_
      refine v_loc [0, 1, 2, 3] [(3, .int (nI (k + 1))), (2, .int (nI (sumN (payN c n0) (k + 1)))), (1, .int (nI n0)), (0, .ref (G b))] rfl ?_
      exact ih _ (k + 1) (show n - 1 < n by omega) (by omega)
    · skip
      have hst := hI.stoodT h17.1
      have hw1 := hI.wait1 h17.1 h17.2
      have hp30 := Nat.lt_of_lt_of_le h17.1 hI.np30
      refine v_aload_n 3 dX1_feesWithin_20 rfl rfl ?_
      refine v_iload_n 0 dX1_feesWithin_21 rfl rfl ?_
      refine u_callVv [.int (nI k)] [] 1 (c_X1_personOf lu Dg E N G shp σ hH c (k := k) (by omega)) (ci := 1) (C := RX1) (T := TX1) (NF := 11) hH.n hH.s rfl gX1_feesWithin_X1_personOf rfl rfl rfl (by decide +kernel) rfl ⟨Nat.le_of_ble_eq_true rfl, Nat.le_of_ble_eq_true rfl⟩ ⟨Nat.le_of_ble_eq_true rfl, Nat.le_of_ble_eq_true rfl⟩ (Nat.le_of_ble_eq_true rfl) rfl dX1_feesWithin_22 ?_
      refine p_geti (g := c) (k := 3) (q := k) (by omega) (c (58 + 10 * k + 2)) hH rfl (pF3 _ _) inX1_feesWithin_X4 (by decide) (by decide +kernel) rfl dX1_feesWithin_25 ?_
      refine v_topi (nI (tn (c (58 + 10 * k + 2)))) (hI.stood h17.1) ?_
      refine v_istore [(4, .int (nI (tn (c (58 + 10 * k + 2))))), (3, .int (nI k)), (2, .int (nI (sumN (payN c n0) k))), (1, .int (nI n0)), (0, .ref (G b))] dX1_feesWithin_28 (by decide) rfl ?_
      refine v_iload_n 3 dX1_feesWithin_30 rfl rfl ?_
      refine v_aload_n 4 dX1_feesWithin_31 rfl rfl ?_
      refine v_iload_n 1 dX1_feesWithin_32 rfl rfl ?_
      refine u_callVv [.int (nI k)] [.int (nI n0)] 1 (c_X1_waitOf lu Dg E N G shp σ hH c hI (p := k) h17.1 h17.2) (ci := 1) (C := RX1) (T := TX1) (NF := 11) hH.n hH.s rfl gX1_feesWithin_X1_waitOf rfl rfl rfl (by decide +kernel) rfl ⟨Nat.le_of_ble_eq_true rfl, Nat.le_of_ble_eq_true rfl⟩ ⟨Nat.le_of_ble_eq_true rfl, Nat.le_of_ble_eq_true rfl⟩ (Nat.le_of_ble_eq_true rfl) rfl dX1_feesWithin_33 ?_
      refine v_iconst (nI 1) dX1_feesWithin_36 (by decide +kernel) ?_
      refine v_isubN (by omega) dX1_feesWithin_37 ?_
      refine v_mmin (by decide +kernel) (by decide +kernel) (by decide +kernel) (by decide +kernel) (Nat.le_of_ble_eq_true rfl) (Nat.le_of_ble_eq_true rfl) ⟨Nat.le_of_ble_eq_true rfl, Nat.le_of_ble_eq_true rfl⟩ dX1_feesWithin_38 ?_
      refine v_topi (nI (min n0 ((waitN c k) - 1))) (min_nI (by omega) (by omega)) ?_
      refine v_istore [(5, .int (nI (min n0 ((waitN c k) - 1)))), (4, .int (nI (tn (c (58 + 10 * k + 2))))), (3, .int (nI k)), (2, .int (nI (sumN (payN c n0) k))), (1, .int (nI n0)), (0, .ref (G b))] dX1_feesWithin_41 (by decide) rfl ?_
      refine v_iload_n 3 dX1_feesWithin_43 rfl rfl ?_
      refine v_aload_n 5 dX1_feesWithin_44 rfl rfl ?_
      refine v_iload 1 dX1_feesWithin_45 rfl ?_
      refine v_iload 0 dX1_feesWithin_47 rfl ?_
      refine v_iaddN dX1_feesWithin_49 ?_
      refine u_callVv [.int (nI (tn (c (58 + 10 * k + 2)) + (min n0 ((waitN c k) - 1))))] [.int (nI (sumN (payN c n0) k))] 1 (c_X1_feesUpTo lu Dg E N G shp σ hH c hI (m := tn (c (58 + 10 * k + 2)) + (min n0 ((waitN c k) - 1))) (by omega)) (ci := 1) (C := RX1) (T := TX1) (NF := 11) hH.n hH.s rfl gX1_feesWithin_X1_feesUpTo rfl rfl rfl (by decide +kernel) rfl ⟨Nat.le_of_ble_eq_true rfl, Nat.le_of_ble_eq_true rfl⟩ ⟨Nat.le_of_ble_eq_true rfl, Nat.le_of_ble_eq_true rfl⟩ (Nat.le_of_ble_eq_true rfl) rfl dX1_feesWithin_50 ?_
      refine v_aload_n 5 dX1_feesWithin_53 rfl rfl ?_
      refine v_iload 1 dX1_feesWithin_54 rfl ?_
      refine u_callVv [.int (nI (tn (c (58 + 10 * k + 2))))] [.int (nI (feeF (tn (c 6)) (tn (c (58 + 10 * k + 2)) + (min n0 ((waitN c k) - 1))))), .int (nI (sumN (payN c n0) k))] 1 (c_X1_feesUpTo lu Dg E N G shp σ hH c hI (m := tn (c (58 + 10 * k + 2))) (by omega)) (ci := 1) (C := RX1) (T := TX1) (NF := 11) hH.n hH.s rfl gX1_feesWithin_X1_feesUpTo rfl rfl rfl (by decide +kernel) rfl ⟨Nat.le_of_ble_eq_true rfl, Nat.le_of_ble_eq_true rfl⟩ ⟨Nat.le_of_ble_eq_true rfl, Nat.le_of_ble_eq_true rfl⟩ (Nat.le_of_ble_eq_true rfl) rfl dX1_feesWithin_56 ?_
      have hfl := feeF_le (tn (c 6)) (tn (c (58 + 10 * k + 2))) (min n0 (waitN c k - 1))
      refine v_isubN (by omega) dX1_feesWithin_59 ?_
      refine v_iaddN dX1_feesWithin_60 ?_
      refine v_istore_n [(2, .int (nI (sumN (payN c n0) k + ((feeF (tn (c 6)) (tn (c (58 + 10 * k + 2)) + (min n0 ((waitN c k) - 1)))) - (feeF (tn (c 6)) (tn (c (58 + 10 * k + 2)))))))), (5, .int (nI (min n0 ((waitN c k) - 1)))), (4, .int (nI (tn (c (58 + 10 * k + 2))))), (3, .int (nI k)), (1, .int (nI n0)), (0, .ref (G b))] dX1_feesWithin_61 rfl (by decide) rfl ?_
      refine v_locv 2 (nI (sumN (payN c n0) (k + 1))) 0 [(2, .int (nI (sumN (payN c n0) (k + 1)))), (5, .int (nI (min n0 ((waitN c k) - 1)))), (4, .int (nI (tn (c (58 + 10 * k + 2))))), (3, .int (nI k)), (1, .int (nI n0)), (0, .ref (G b))] rfl (congrArg nI (by rw [sumN, payN, ic_t h17.2])) rfl ?_
      refine v_iincN 3 [(3, .int (nI (k + 1))), (2, .int (nI (sumN (payN c n0) (k + 1)))), (5, .int (nI (min n0 ((waitN c k) - 1)))), (4, .int (nI (tn (c (58 + 10 * k + 2))))), (1, .int (nI n0)), (0, .ref (G b))] dX1_feesWithin_62 rfl (by decide) rfl ?_
      refine v_goto 4 dX1_feesWithin_65 rfl ?_
      refine v_loc [0, 1, 4, 5] [(3, .int (nI (k + 1))), (2, .int (nI (sumN (payN c n0) (k + 1)))), (1, .int (nI n0)), (0, .ref (G b))] rfl ?_
      exact ih _ (k + 1) (show n - 1 < n by omega) (by omega)
set_option maxRecDepth 100000 in
theorem inX1_profit_X4 : ∀ w ∈ wsX40, w ∈ wsX1_profit := by decide +kernel
set_option maxHeartbeats 4000000 in
set_option maxRecDepth 100000 in
/-- Hall.profit -/
theorem c_X1_profit (lu : Launch) (Dg : va_G) (E : Nat → ClassId) (N : Nat) (G : Nat → Nat) (shp : Nat → (Nat → Int32) → va_E) (σ : Nat → Nat → Int32) {b : Nat} (hH : HallS E G shp N b) (c : Nat → Int32) {T : Nat} (hI : Inv T c) {p q : Nat} (hp : p < tn (c 2)) (hq : q < tn (c 2)) (hm : MayX c p q)  : CS lu yX1_profit wsX1_profit { frames := 2, cells := 0, slots := 0, locals := 43 } Dg E N G shp (hs σ b c) [.ref (G b), .int (nI p), .int (nI q)] (some (.int (gainI c p q))) (hs σ b c) := by
  refine CS.of (cc := cX1_profit) (maxL := 6) (ret := (some .int)) (by decide) rfl (Nat.le_of_ble_eq_true rfl) ?_
  intro p_ e_ s_ m_ args_ below_ meth_ c_
  refine v_eq (pc' := 0) (st' := []) rfl rfl ?_
  refine v_loc [0, 1, 2] [(0, .ref (G b)), (1, .int (nI p)), (2, .int (nI q))] rfl ?_
  have hqp := hI.plcs hp hm.1
  have hqq := hI.plcs hq hm.2.1
  have hp30 := Nat.lt_of_lt_of_le hp hI.np30
  have hl3 := Nat.lt_of_lt_of_le hqp.1 hI.nl3
  have hlt := hm.2.2.2.1
  refine v_aload_n 0 dX1_profit_0 rfl rfl ?_
  refine v_aload_n 0 dX1_profit_1 rfl rfl ?_
  refine v_iload_n 1 dX1_profit_2 rfl rfl ?_
  refine u_callVv [.int (nI p)] [.ref (G b)] 1 (c_X1_personOf lu Dg E N G shp σ hH c (k := p) (by omega)) (ci := 1) (C := RX1) (T := TX1) (NF := 11) hH.n hH.s rfl gX1_profit_X1_personOf rfl rfl rfl (by decide +kernel) rfl ⟨Nat.le_of_ble_eq_true rfl, Nat.le_of_ble_eq_true rfl⟩ ⟨Nat.le_of_ble_eq_true rfl, Nat.le_of_ble_eq_true rfl⟩ (Nat.le_of_ble_eq_true rfl) rfl dX1_profit_3 ?_
  refine p_geti (g := c) (k := 1) (q := p) (by omega) (c (58 + 10 * p + 1)) hH rfl (pF1 _ _) inX1_profit_X4 (by decide) (by decide +kernel) rfl dX1_profit_6 ?_
  refine v_topi (nI (liN c p)) (hqp.2.1) ?_
  refine u_callVv [.int (nI (liN c p))] [] 1 (c_X1_lineOf lu Dg E N G shp σ hH c (k := liN c p) (by omega)) (ci := 1) (C := RX1) (T := TX1) (NF := 11) hH.n hH.s rfl gX1_profit_X1_lineOf rfl rfl rfl (by decide +kernel) rfl ⟨Nat.le_of_ble_eq_true rfl, Nat.le_of_ble_eq_true rfl⟩ ⟨Nat.le_of_ble_eq_true rfl, Nat.le_of_ble_eq_true rfl⟩ (Nat.le_of_ble_eq_true rfl) rfl dX1_profit_9 ?_
  refine v_astore_n [(3, .ref (G (b + 7 + 2 * (liN c p)))), (0, .ref (G b)), (1, .int (nI p)), (2, .int (nI q))] dX1_profit_12 rfl (by decide) rfl ?_
  refine v_aload_n 1 dX1_profit_13 rfl rfl ?_
  refine v_iload_n 2 dX1_profit_14 rfl rfl ?_
  refine u_callVv [.int (nI p)] [] 1 (c_X1_placeOf lu Dg E N G shp σ hH c hI (p := p) hp hm.1) (ci := 1) (C := RX1) (T := TX1) (NF := 11) hH.n hH.s rfl gX1_profit_X1_placeOf rfl rfl rfl (by decide +kernel) rfl ⟨Nat.le_of_ble_eq_true rfl, Nat.le_of_ble_eq_true rfl⟩ ⟨Nat.le_of_ble_eq_true rfl, Nat.le_of_ble_eq_true rfl⟩ (Nat.le_of_ble_eq_true rfl) rfl dX1_profit_15 ?_
  refine v_istore [(4, .int (nI (plc c p))), (3, .ref (G (b + 7 + 2 * (liN c p)))), (0, .ref (G b)), (1, .int (nI p)), (2, .int (nI q))] dX1_profit_18 (by decide) rfl ?_
  refine v_aload_n 2 dX1_profit_20 rfl rfl ?_
  refine v_iload_n 4 dX1_profit_21 rfl rfl ?_
  refine u_callVv [.int (nI q)] [] 1 (c_X1_placeOf lu Dg E N G shp σ hH c hI (p := q) hq hm.2.1) (ci := 1) (C := RX1) (T := TX1) (NF := 11) hH.n hH.s rfl gX1_profit_X1_placeOf rfl rfl rfl (by decide +kernel) rfl ⟨Nat.le_of_ble_eq_true rfl, Nat.le_of_ble_eq_true rfl⟩ ⟨Nat.le_of_ble_eq_true rfl, Nat.le_of_ble_eq_true rfl⟩ (Nat.le_of_ble_eq_true rfl) rfl dX1_profit_22 ?_
  refine v_istore [(5, .int (nI (plc c q))), (4, .int (nI (plc c p))), (3, .ref (G (b + 7 + 2 * (liN c p)))), (0, .ref (G b)), (1, .int (nI p)), (2, .int (nI q))] dX1_profit_25 (by decide) rfl ?_
  refine v_aload_n 2 dX1_profit_27 rfl rfl ?_
  refine v_iload 1 dX1_profit_28 rfl ?_
  refine u_callVv [.int (nI (plc c p))] [] 1 (c_X3_waitAt lu Dg E N G shp σ hH c (l := liN c p) hl3 (plc c p)) (ci := 3) (C := RX3) (T := TX3) (NF := 5) (hH.li (l := liN c p) (by omega)).n (hH.li (l := liN c p) (by omega)).2.1 rfl gX1_profit_X3_waitAt rfl rfl rfl (by decide +kernel) rfl ⟨Nat.le_of_ble_eq_true rfl, Nat.le_of_ble_eq_true rfl⟩ ⟨Nat.le_of_ble_eq_true rfl, Nat.le_of_ble_eq_true rfl⟩ (Nat.le_of_ble_eq_true rfl) rfl dX1_profit_30 ?_
  refine v_aload_n 2 dX1_profit_33 rfl rfl ?_
  refine v_iload 0 dX1_profit_34 rfl ?_
  refine u_callVv [.int (nI (plc c q))] [.int (c (10 + liN c p) * nI (plc c p + 1) - c (16 + liN c p))] 1 (c_X3_waitAt lu Dg E N G shp σ hH c (l := liN c p) hl3 (plc c q)) (ci := 3) (C := RX3) (T := TX3) (NF := 5) (hH.li (l := liN c p) (by omega)).n (hH.li (l := liN c p) (by omega)).2.1 rfl gX1_profit_X3_waitAt rfl rfl rfl (by decide +kernel) rfl ⟨Nat.le_of_ble_eq_true rfl, Nat.le_of_ble_eq_true rfl⟩ ⟨Nat.le_of_ble_eq_true rfl, Nat.le_of_ble_eq_true rfl⟩ (Nat.le_of_ble_eq_true rfl) rfl dX1_profit_36 ?_
  refine v_isub dX1_profit_39 ?_
  refine v_aload_n 3 dX1_profit_40 rfl rfl ?_
  refine v_iload 1 dX1_profit_41 rfl ?_
  refine v_iload 0 dX1_profit_43 rfl ?_
  refine v_isubN (by omega) dX1_profit_45 ?_
  refine u_callVv [.int (nI ((plc c p) - (plc c q)))] [.int ((c (10 + liN c p) * nI (plc c p + 1) - c (16 + liN c p)) - (c (10 + liN c p) * nI (plc c q + 1) - c (16 + liN c p)))] 1 (c_X1_priceOf lu Dg E N G shp σ hH c ((plc c p) - (plc c q))) (ci := 1) (C := RX1) (T := TX1) (NF := 11) hH.n hH.s rfl gX1_profit_X1_priceOf rfl rfl rfl (by decide +kernel) rfl ⟨Nat.le_of_ble_eq_true rfl, Nat.le_of_ble_eq_true rfl⟩ ⟨Nat.le_of_ble_eq_true rfl, Nat.le_of_ble_eq_true rfl⟩ (Nat.le_of_ble_eq_true rfl) rfl dX1_profit_46 ?_
  refine v_isub dX1_profit_49 ?_
  refine v_iret rfl dX1_profit_50 ⟨congrArg (fun z => some (Value.int z)) ?_, congrArg (φ shp) ?_⟩
  · unfold gainI; rw [hI.waitX hp hq hm, hI.waitI hqp.1, hI.waitI hqp.1, Int32.mul_comm (c 8)]; rfl
  · rfl
theorem exch_iff {T : Nat} {s : Nat → Int32} (h : Inv T s) {p k : Nat} (hp : p < tn (s 2)) (hk : k < tn (s 2)) : exchFl s (nI p) (nI k) = 0 ↔ MayX s p k := by
  have hnp := h.np30
  rw [exchFl_0, tn_nI (by omega), tn_nI (by omega)]
  exact ⟨fun z => z.2, fun z => ⟨⟨⟨p, hp, rfl⟩, k, hk, rfl⟩, z⟩⟩
set_option maxRecDepth 100000 in
theorem inX1_bestPartner_X1 : ∀ w ∈ wsX10, w ∈ wsX1_bestPartner := by decide +kernel
set_option maxHeartbeats 4000000 in
set_option maxRecDepth 100000 in
/-- Hall.bestPartner -/
theorem c_X1_bestPartner (lu : Launch) (Dg : va_G) (E : Nat → ClassId) (N : Nat) (G : Nat → Nat) (shp : Nat → (Nat → Int32) → va_E) (σ : Nat → Nat → Int32) {b : Nat} (hH : HallS E G shp N b) (c : Nat → Int32) {T : Nat} (hI : Inv T c) {p : Nat} (hp : p < tn (c 2))  : CS lu yX1_bestPartner wsX1_bestPartner { frames := 3, cells := 0, slots := 0, locals := 68 } Dg E N G shp (hs σ b c) [.ref (G b), .int (nI p)] (some (.int ((partB c p (tn (c 2))).1))) (hs σ b c) := by
  refine CS.of (cc := cX1_bestPartner) (maxL := 4) (ret := (some .int)) (by decide) rfl (Nat.le_of_ble_eq_true rfl) ?_
  intro p_ e_ s_ m_ args_ below_ meth_ c_
  refine v_eq (pc' := 0) (st' := []) rfl rfl ?_
  refine v_loc [0, 1] [(0, .ref (G b)), (1, .int (nI p))] rfl ?_
  have hnp30 := hI.np30
  refine v_iconst ((-1)) dX1_bestPartner_0 (by decide +kernel) ?_
  refine v_istore_n [(2, .int ((-1))), (0, .ref (G b)), (1, .int (nI p))] dX1_bestPartner_1 rfl (by decide) rfl ?_
  refine v_iconst (nI 0) dX1_bestPartner_2 (by decide +kernel) ?_
  refine v_istore_n [(3, .int (nI 0)), (2, .int ((-1))), (0, .ref (G b)), (1, .int (nI p))] dX1_bestPartner_3 rfl (by decide) rfl ?_
  refine v_loc [0, 1, 3, 2] [(3, .int (nI 0)), (2, .int ((-1))), (1, .int (nI p)), (0, .ref (G b))] rfl ?_
  refine u_loop2 (fun n (k : Nat) (be : Int32) => k + n = tn (c 2) ∧ (partB c p k).1 = be ∧ (be = -1 ∨ ∃ j, j < k ∧ be = nI j ∧ MayX c p j ∧ (partB c p k).2 = gainI c p j)) (fun (k : Nat) (be : Int32) => hs σ b c) (fun (k : Nat) (be : Int32) => [(3, .int (nI k)), (2, .int be), (1, .int (nI p)), (0, .ref (G b))]) (tn (c 2)) 0 (-1) (⟨by omega, rfl, Or.inl rfl⟩) ?_
  intro n k be hL ih
  refine v_iload_n 0 dX1_bestPartner_4 rfl rfl ?_
  refine v_aload_n 3 dX1_bestPartner_5 rfl rfl ?_
  refine h_geti (g := c) (k := 1) (c 2) hH rfl (hF1 _) inX1_bestPartner_X1 (by decide) (by decide +kernel) rfl dX1_bestPartner_6 ?_
  refine v_topi (nI (tn (c 2))) (hI.np) ?_
  refine v_icmp_geN 49 (by omega) (by omega) dX1_bestPartner_9 rfl (fun h9 => ?_) (fun h9 => ?_)
  · skip
    refine v_iload_n 1 dX1_bestPartner_49 rfl rfl ?_
    refine v_iret rfl dX1_bestPartner_50 ⟨congrArg (fun z => some (Value.int z)) ?_, congrArg (φ shp) ?_⟩
    · obtain rfl : k = tn (c 2) := (by omega); exact hL.2.1.symm
    · rfl
  · skip
    refine v_aload_n 3 dX1_bestPartner_12 rfl rfl ?_
    refine v_iload_n 2 dX1_bestPartner_13 rfl rfl ?_
    refine v_iload_n 0 dX1_bestPartner_14 rfl rfl ?_
    refine u_callVv [.int (nI p), .int (nI k)] [] 2 (c_X1_mayTrade lu Dg E N G shp σ hH c hI (p := p) (q := k) (by omega) (by omega)) (ci := 1) (C := RX1) (T := TX1) (NF := 11) hH.n hH.s rfl gX1_bestPartner_X1_mayTrade rfl rfl rfl (by decide +kernel) rfl ⟨Nat.le_of_ble_eq_true rfl, Nat.le_of_ble_eq_true rfl⟩ ⟨Nat.le_of_ble_eq_true rfl, Nat.le_of_ble_eq_true rfl⟩ (Nat.le_of_ble_eq_true rfl) rfl dX1_bestPartner_15 ?_
    refine v_if_eqB 43 dX1_bestPartner_18 rfl (fun h18 => ?_) (fun h18 => ?_)
    · skip
      refine v_iincN 0 [(3, .int (nI (k + 1))), (2, .int be), (1, .int (nI p)), (0, .ref (G b))] dX1_bestPartner_43 rfl (by decide) rfl ?_
      refine v_goto 4 dX1_bestPartner_46 rfl ?_
      refine v_loc [0, 1, 2, 3] [(3, .int (nI (k + 1))), (2, .int be), (1, .int (nI p)), (0, .ref (G b))] rfl ?_
      exact ih _ (k + 1) be (show n - 1 < n by omega) (⟨by omega, by rw [partB, partStep, ic_f (P := exchFl c (nI p) (nI k) = 0) (fun z => h18 ⟨hp, by omega, (exch_iff hI hp (by omega)).mp z⟩)]; exact hL.2.1, hL.2.2.elim Or.inl (fun ⟨j, a, b, d, e⟩ => Or.inr ⟨j, by omega, b, d, by rw [partB, partStep, ic_f (P := exchFl c (nI p) (nI k) = 0) (fun z => h18 ⟨hp, by omega, (exch_iff hI hp (by omega)).mp z⟩)]; exact e⟩)⟩)
    · skip
      refine v_iload_n 1 dX1_bestPartner_21 rfl rfl ?_
      refine v_iconst ((-1)) dX1_bestPartner_22 (by decide +kernel) ?_
      refine v_icmp_eq 41 dX1_bestPartner_23 rfl (fun h23 => ?_) (fun h23 => ?_)
      · skip
        have hL := (⟨hL.1, hL.2.1.trans h23⟩ : k + n = tn (c 2) ∧ (partB c p k).1 = -1)
        refine v_iload_n 0 dX1_bestPartner_41 rfl rfl ?_
        refine v_istore_n [(2, .int (nI k)), (3, .int (nI k)), (1, .int (nI p)), (0, .ref (G b))] dX1_bestPartner_42 rfl (by decide) rfl ?_
        refine v_iincN 1 [(3, .int (nI (k + 1))), (2, .int (nI k)), (1, .int (nI p)), (0, .ref (G b))] dX1_bestPartner_43 rfl (by decide) rfl ?_
        refine v_goto 4 dX1_bestPartner_46 rfl ?_
        refine v_loc [0, 1, 2, 3] [(3, .int (nI (k + 1))), (2, .int (nI k)), (1, .int (nI p)), (0, .ref (G b))] rfl ?_
        exact ih _ (k + 1) (nI k) (show n - 1 < n by omega) (⟨by omega, by rw [partB, partStep, ic_t (P := exchFl c (nI p) (nI k) = 0) ((exch_iff hI hp (by omega)).mpr h18.2.2), ic_t (Or.inl hL.2)], Or.inr ⟨k, by omega, rfl, h18.2.2, by rw [partB, partStep, ic_t (P := exchFl c (nI p) (nI k) = 0) ((exch_iff hI hp (by omega)).mpr h18.2.2), ic_t (Or.inl hL.2)]⟩⟩)
      · skip
        obtain ⟨j, hj1, hjb, hj3, hj2⟩ := hL.2.2.resolve_left h23
        subst hjb
        refine v_aload_n 3 dX1_bestPartner_26 rfl rfl ?_
        refine v_iload_n 2 dX1_bestPartner_27 rfl rfl ?_
        refine v_iload_n 0 dX1_bestPartner_28 rfl rfl ?_
        refine u_callVv [.int (nI p), .int (nI k)] [] 2 (c_X1_profit lu Dg E N G shp σ hH c hI (p := p) (q := k) hp h18.2.1 h18.2.2) (ci := 1) (C := RX1) (T := TX1) (NF := 11) hH.n hH.s rfl gX1_bestPartner_X1_profit rfl rfl rfl (by decide +kernel) rfl ⟨Nat.le_of_ble_eq_true rfl, Nat.le_of_ble_eq_true rfl⟩ ⟨Nat.le_of_ble_eq_true rfl, Nat.le_of_ble_eq_true rfl⟩ (Nat.le_of_ble_eq_true rfl) rfl dX1_bestPartner_29 ?_
        refine v_aload_n 3 dX1_bestPartner_32 rfl rfl ?_
        refine v_iload_n 2 dX1_bestPartner_33 rfl rfl ?_
        refine v_iload_n 1 dX1_bestPartner_34 rfl rfl ?_
        refine u_callVv [.int (nI p), .int (nI j)] [.int (gainI c p k)] 2 (c_X1_profit lu Dg E N G shp σ hH c hI (p := p) (q := j) hp (by omega) hj3) (ci := 1) (C := RX1) (T := TX1) (NF := 11) hH.n hH.s rfl gX1_bestPartner_X1_profit rfl rfl rfl (by decide +kernel) rfl ⟨Nat.le_of_ble_eq_true rfl, Nat.le_of_ble_eq_true rfl⟩ ⟨Nat.le_of_ble_eq_true rfl, Nat.le_of_ble_eq_true rfl⟩ (Nat.le_of_ble_eq_true rfl) rfl dX1_bestPartner_35 ?_
        refine v_icmp_le 43 dX1_bestPartner_38 rfl (fun h38 => ?_) (fun h38 => ?_)
        · skip
          refine v_iincN 0 [(3, .int (nI (k + 1))), (2, .int (nI j)), (1, .int (nI p)), (0, .ref (G b))] dX1_bestPartner_43 rfl (by decide) rfl ?_
          refine v_goto 4 dX1_bestPartner_46 rfl ?_
          refine v_loc [0, 1, 2, 3] [(3, .int (nI (k + 1))), (2, .int (nI j)), (1, .int (nI p)), (0, .ref (G b))] rfl ?_
          exact ih _ (k + 1) (nI j) (show n - 1 < n by omega) (⟨by omega, by rw [partB, partStep, ic_t (P := exchFl c (nI p) (nI k) = 0) ((exch_iff hI hp (by omega)).mpr h18.2.2), ic_f (by rintro (q9 | q9); exact nI_m1 (by omega) (hL.2.1.symm.trans q9); rw [hj2] at q9; exact absurd q9 (Int32.not_lt.mpr h38))]; exact hL.2.1, Or.inr ⟨j, by omega, rfl, hj3, by rw [partB, partStep, ic_t (P := exchFl c (nI p) (nI k) = 0) ((exch_iff hI hp (by omega)).mpr h18.2.2), ic_f (by rintro (q9 | q9); exact nI_m1 (by omega) (hL.2.1.symm.trans q9); rw [hj2] at q9; exact absurd q9 (Int32.not_lt.mpr h38))]; exact hj2⟩⟩)
        · skip
          refine v_iload_n 0 dX1_bestPartner_41 rfl rfl ?_
          refine v_istore_n [(2, .int (nI k)), (3, .int (nI k)), (1, .int (nI p)), (0, .ref (G b))] dX1_bestPartner_42 rfl (by decide) rfl ?_
          refine v_iincN 1 [(3, .int (nI (k + 1))), (2, .int (nI k)), (1, .int (nI p)), (0, .ref (G b))] dX1_bestPartner_43 rfl (by decide) rfl ?_
          refine v_goto 4 dX1_bestPartner_46 rfl ?_
          refine v_loc [0, 1, 2, 3] [(3, .int (nI (k + 1))), (2, .int (nI k)), (1, .int (nI p)), (0, .ref (G b))] rfl ?_
          exact ih _ (k + 1) (nI k) (show n - 1 < n by omega) (⟨by omega, by rw [partB, partStep, ic_t (P := exchFl c (nI p) (nI k) = 0) ((exch_iff hI hp (by omega)).mpr h18.2.2), ic_t (Or.inr (by rw [hj2]; exact Int32.not_le.mp h38))], Or.inr ⟨k, by omega, rfl, h18.2.2, by rw [partB, partStep, ic_t (P := exchFl c (nI p) (nI k) = 0) ((exch_iff hI hp (by omega)).mpr h18.2.2), ic_t (Or.inr (by rw [hj2]; exact Int32.not_le.mp h38))]⟩⟩)
