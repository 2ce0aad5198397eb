theorem exchS_2 {s : Nat → Int32} {p q : Nat} (h : 22 + 12 * liN s p + plc s p < 58) (h2 : 22 + 12 * liN s p + plc s q < 58) : exchS s p q 2 = s 2 := by
  unfold exchS; rw [exchF_row _ (by omega) (by omega), if_neg (by omega), if_neg (by omega)]
theorem exchS_5 {s : Nat → Int32} {p q x : Nat} (h : 22 + 12 * liN s p + plc s p < 58) (h2 : 22 + 12 * liN s p + plc s q < 58) : exchS s p q (58 + 10 * x + 5) = s (58 + 10 * x + 5) := by
  unfold exchS; exact exchF_p h h2 (by omega) (by omega) (by omega)
theorem Inv.exT {T : Nat} {s : Nat → Int32} (h : Inv T s) (hT : T ≤ 999000) {p q : Nat} (hp : p < tn (s 2)) (hq : q < tn (s 2)) (hm : MayX s p q) : Turns (exchS s p q) p (waitN (exchS s p q) p) := by
  obtain ⟨a1, -, a3, -, -⟩ := h.plcs hp hm.1
  obtain ⟨b1, -, b3, -, -⟩ := h.plcs hq hm.2.1
  have a12 := h.len12 a1
  have b12 := h.len12 b1
  have a := h.nl3
  exact (h.exch hp hq hm).allT hT p (by rw [exchS_2 (by omega) (by omega)]; exact hp) (by rw [exchS_5 (by omega) (by omega)]; exact hm.1)
theorem Inv.comT {T : Nat} {s : Nat → Int32} (h : Inv T s) (hT : T ≤ 999000) {l k0 : Nat} (hl : l < tn (s 1)) (hp : tn (s 2) < 30) (hlen : tn (s (13 + l)) < 12) : Turns (comesS s l k0) (tn (s 2)) (waitN (comesS s l k0) (tn (s 2))) := by
  have hnl3 := h.nl3
  refine (h.comes hl hp hlen).allT hT _ ?_ ?_
  · unfold comesS; rw [comesF_lo (by omega), if_pos rfl, tn_nI (by omega)]; omega
  · unfold comesS; rw [comesF_p (by omega) (by omega), if_neg (by omega), if_neg (by omega), if_neg (by omega), if_neg (by omega)]
noncomputable def partStep (s : Nat → Int32) (p k : Nat) (r : Int32 × Int32) : Int32 × Int32 := ic (exchFl s (nI p) (nI k) = 0) (ic (r.1 = -1 ∨ r.2 < gainI s p k) (nI k, gainI s p k) r) r
noncomputable def partB (s : Nat → Int32) (p : Nat) : Nat → Int32 × Int32 | 0 => (-1, nI 0) | k + 1 => partStep s p k (partB s p k)
noncomputable def bestStep (s : Nat → Int32) (k : Nat) (r : Int32 × Int32) : Int32 × Int32 := ic (comeFl s (nI k) (nI 0) = 0) (ic (r.1 = -1 ∨ nI (waitN (comesS s k 0) (tn (s 2))) < r.2) (nI k, nI (waitN (comesS s k 0) (tn (s 2)))) r) r
noncomputable def bestB (s : Nat → Int32) : Nat → Int32 × Int32 | 0 => (-1, nI 0) | k + 1 => bestStep s k (bestB s k)
noncomputable def longStep (s : Nat → Int32) (k : Nat) (r : Int32 × Int32) : Int32 × Int32 := ic (s (58 + 10 * k + 5) = 0) (ic (r.2 < s (58 + 10 * k + 2) + nI (waitN s k)) (nI k, s (58 + 10 * k + 2) + nI (waitN s k)) r) r
noncomputable def longB (s : Nat → Int32) : Nat → Int32 × Int32 | 0 => (-1, -1) | k + 1 => longStep s k (longB s k)
set_option maxHeartbeats 4000000 in
set_option maxRecDepth 100000 in
/-- isSetting 0 -/
theorem c_X6_isSetting_0 (lu : Launch) (Dg : va_G) (E : Nat → ClassId) (N : Nat) (G : Nat → Nat) (shp : Nat → (Nat → Int32) → va_E) (σ : Nat → Nat → Int32)  (y : Int32)  : CS lu yX6_isSetting wsX6_isSetting { frames := 1, cells := 0, slots := 0, locals := 22 } Dg E N G shp σ [.int (nI 0), .int y] (some (.int (bi (nI 10 ≤ y ∧ y ≤ nI 99)))) σ := by
  refine CS.of (cc := cX6_isSetting) (maxL := 2) (ret := (some .boolean)) (by decide) rfl (Nat.le_of_ble_eq_true rfl) ?_
  intro p_ e_ s_ m_ args_ below_ meth_ c_
  refine v_eq (pc' := 0) (st' := []) rfl rfl ?_
  refine v_loc [0, 1] [(0, .int (nI 0)), (1, .int y)] rfl ?_
  refine v_iload_n 0 dX6_isSetting_0 rfl rfl ?_
  refine v_tableIn (off := 31) 32 dX6_isSetting_1 (by decide +kernel) (by decide +kernel) (by decide +kernel) rfl ?_
  refine v_iload_n 1 dX6_isSetting_32 rfl rfl ?_
  refine v_bipush (nI 10) dX6_isSetting_33 (by decide +kernel) ?_
  refine v_bipush (nI 99) dX6_isSetting_35 (by decide +kernel) ?_
  refine u_callSv [.int y, .int (nI 10), .int (nI 99)] [] 3 (c_X6_in lu Dg E N G shp σ (y) (nI 10) (nI 99)) gX6_isSetting_X6_in rfl rfl rfl (by decide +kernel) rfl ⟨Nat.le_of_ble_eq_true rfl, Nat.le_of_ble_eq_true rfl⟩ ⟨Nat.le_of_ble_eq_true rfl, Nat.le_of_ble_eq_true rfl⟩ (Nat.le_of_ble_eq_true rfl) rfl dX6_isSetting_37 ?_
  refine v_zret rfl (bi_01 _) dX6_isSetting_40 ⟨congrArg (fun z => some (Value.int z)) ?_, congrArg (φ shp) ?_⟩
  · rfl
  · rfl

set_option maxHeartbeats 4000000 in
set_option maxRecDepth 100000 in
/-- isSetting 1 -/
theorem c_X6_isSetting_1 (lu : Launch) (Dg : va_G) (E : Nat → ClassId) (N : Nat) (G : Nat → Nat) (shp : Nat → (Nat → Int32) → va_E) (σ : Nat → Nat → Int32)  (y : Int32)  : CS lu yX6_isSetting wsX6_isSetting { frames := 1, cells := 0, slots := 0, locals := 22 } Dg E N G shp σ [.int (nI 1), .int y] (some (.int (bi (nI 0 ≤ y ∧ y ≤ nI 50)))) σ := by
  refine CS.of (cc := cX6_isSetting) (maxL := 2) (ret := (some .boolean)) (by decide) rfl (Nat.le_of_ble_eq_true rfl) ?_
  intro p_ e_ s_ m_ args_ below_ meth_ c_
  refine v_eq (pc' := 0) (st' := []) rfl rfl ?_
  refine v_loc [0, 1] [(0, .int (nI 1)), (1, .int y)] rfl ?_
  refine v_iload_n 0 dX6_isSetting_0 rfl rfl ?_
  refine v_tableIn (off := 40) 41 dX6_isSetting_1 (by decide +kernel) (by decide +kernel) (by decide +kernel) rfl ?_
  refine v_iload_n 1 dX6_isSetting_41 rfl rfl ?_
  refine v_iconst (nI 0) dX6_isSetting_42 (by decide +kernel) ?_
  refine v_bipush (nI 50) dX6_isSetting_43 (by decide +kernel) ?_
  refine u_callSv [.int y, .int (nI 0), .int (nI 50)] [] 3 (c_X6_in lu Dg E N G shp σ (y) (nI 0) (nI 50)) gX6_isSetting_X6_in rfl rfl rfl (by decide +kernel) rfl ⟨Nat.le_of_ble_eq_true rfl, Nat.le_of_ble_eq_true rfl⟩ ⟨Nat.le_of_ble_eq_true rfl, Nat.le_of_ble_eq_true rfl⟩ (Nat.le_of_ble_eq_true rfl) rfl dX6_isSetting_45 ?_
  refine v_zret rfl (bi_01 _) dX6_isSetting_48 ⟨congrArg (fun z => some (Value.int z)) ?_, congrArg (φ shp) ?_⟩
  · rfl
  · rfl

set_option maxHeartbeats 4000000 in
set_option maxRecDepth 100000 in
/-- isSetting 2 -/
theorem c_X6_isSetting_2 (lu : Launch) (Dg : va_G) (E : Nat → ClassId) (N : Nat) (G : Nat → Nat) (shp : Nat → (Nat → Int32) → va_E) (σ : Nat → Nat → Int32)  (y : Int32)  : CS lu yX6_isSetting wsX6_isSetting { frames := 1, cells := 0, slots := 0, locals := 22 } Dg E N G shp σ [.int (nI 2), .int y] (some (.int (bi (nI 1 ≤ y ∧ y ≤ nI 9)))) σ := by
  refine CS.of (cc := cX6_isSetting) (maxL := 2) (ret := (some .boolean)) (by decide) rfl (Nat.le_of_ble_eq_true rfl) ?_
  intro p_ e_ s_ m_ args_ below_ meth_ c_
  refine v_eq (pc' := 0) (st' := []) rfl rfl ?_
  refine v_loc [0, 1] [(0, .int (nI 2)), (1, .int y)] rfl ?_
  refine v_iload_n 0 dX6_isSetting_0 rfl rfl ?_
  refine v_tableIn (off := 48) 49 dX6_isSetting_1 (by decide +kernel) (by decide +kernel) (by decide +kernel) rfl ?_
  refine v_iload_n 1 dX6_isSetting_49 rfl rfl ?_
  refine v_iconst (nI 1) dX6_isSetting_50 (by decide +kernel) ?_
  refine v_bipush (nI 9) dX6_isSetting_51 (by decide +kernel) ?_
  refine u_callSv [.int y, .int (nI 1), .int (nI 9)] [] 3 (c_X6_in lu Dg E N G shp σ (y) (nI 1) (nI 9)) gX6_isSetting_X6_in rfl rfl rfl (by decide +kernel) rfl ⟨Nat.le_of_ble_eq_true rfl, Nat.le_of_ble_eq_true rfl⟩ ⟨Nat.le_of_ble_eq_true rfl, Nat.le_of_ble_eq_true rfl⟩ (Nat.le_of_ble_eq_true rfl) rfl dX6_isSetting_53 ?_
  refine v_zret rfl (bi_01 _) dX6_isSetting_56 ⟨congrArg (fun z => some (Value.int z)) ?_, congrArg (φ shp) ?_⟩
  · rfl
  · rfl

set_option maxHeartbeats 4000000 in
set_option maxRecDepth 100000 in
/-- isSetting 3 -/
theorem c_X6_isSetting_3 (lu : Launch) (Dg : va_G) (E : Nat → ClassId) (N : Nat) (G : Nat → Nat) (shp : Nat → (Nat → Int32) → va_E) (σ : Nat → Nat → Int32)  (y : Int32)  : CS lu yX6_isSetting wsX6_isSetting { frames := 1, cells := 0, slots := 0, locals := 22 } Dg E N G shp σ [.int (nI 3), .int y] (some (.int (bi (nI 1 ≤ y ∧ y ≤ nI 5)))) σ := by
  refine CS.of (cc := cX6_isSetting) (maxL := 2) (ret := (some .boolean)) (by decide) rfl (Nat.le_of_ble_eq_true rfl) ?_
  intro p_ e_ s_ m_ args_ below_ meth_ c_
  refine v_eq (pc' := 0) (st' := []) rfl rfl ?_
  refine v_loc [0, 1] [(0, .int (nI 3)), (1, .int y)] rfl ?_
  refine v_iload_n 0 dX6_isSetting_0 rfl rfl ?_
  refine v_tableIn (off := 56) 57 dX6_isSetting_1 (by decide +kernel) (by decide +kernel) (by decide +kernel) rfl ?_
  refine v_iload_n 1 dX6_isSetting_57 rfl rfl ?_
  refine v_iconst (nI 1) dX6_isSetting_58 (by decide +kernel) ?_
  refine v_iconst (nI 5) dX6_isSetting_59 (by decide +kernel) ?_
  refine u_callSv [.int y, .int (nI 1), .int (nI 5)] [] 3 (c_X6_in lu Dg E N G shp σ (y) (nI 1) (nI 5)) gX6_isSetting_X6_in rfl rfl rfl (by decide +kernel) rfl ⟨Nat.le_of_ble_eq_true rfl, Nat.le_of_ble_eq_true rfl⟩ ⟨Nat.le_of_ble_eq_true rfl, Nat.le_of_ble_eq_true rfl⟩ (Nat.le_of_ble_eq_true rfl) rfl dX6_isSetting_60 ?_
  refine v_zret rfl (bi_01 _) dX6_isSetting_63 ⟨congrArg (fun z => some (Value.int z)) ?_, congrArg (φ shp) ?_⟩
  · rfl
  · rfl

theorem Rg_out4 {x : Int32} (h : ¬ Rg 4 x) : x.toInt < 0 ∨ 3 < x.toInt := by
  rcases pk_ix x (n := 4) (by omega) with q | q | ⟨j, hj, q⟩
  · left
    have := Int32.lt_iff_toInt_lt.mp q
    rw [Int32.toInt_zero] at this; exact this
  · right
    have := Int32.le_iff_toInt_le.mp q
    rw [nI_toInt (by omega)] at this; omega
  · exact absurd ⟨j, hj, q⟩ h
set_option maxHeartbeats 4000000 in
set_option maxRecDepth 100000 in
/-- isSetting, none -/
theorem c_X6_isSetting_n (lu : Launch) (Dg : va_G) (E : Nat → ClassId) (N : Nat) (G : Nat → Nat) (shp : Nat → (Nat → Int32) → va_E) (σ : Nat → Nat → Int32)  (x y : Int32) (hx : ¬ Rg 4 x)  : CS lu yX6_isSetting wsX6_isSetting { frames := 1, cells := 0, slots := 0, locals := 22 } Dg E N G shp σ [.int x, .int y] (some (.int (nI 0))) σ := by
  refine CS.of (cc := cX6_isSetting) (maxL := 2) (ret := (some .boolean)) (by decide) rfl (Nat.le_of_ble_eq_true rfl) ?_
  intro p_ e_ s_ m_ args_ below_ meth_ c_
  refine v_eq (pc' := 0) (st' := []) rfl rfl ?_
  refine v_loc [0, 1] [(0, .int x), (1, .int y)] rfl ?_
  refine v_iload_n 0 dX6_isSetting_0 rfl rfl ?_
  refine v_tableOut 64 dX6_isSetting_1 (Rg_out4 hx) rfl ?_
  refine v_iconst (nI 0) dX6_isSetting_64 (by decide +kernel) ?_
  refine v_zret rfl (by decide +kernel) dX6_isSetting_65 ⟨congrArg (fun z => some (Value.int z)) ?_, congrArg (φ shp) ?_⟩
  · rfl
  · rfl

set_option maxHeartbeats 4000000 in
set_option maxRecDepth 100000 in
/-- set_1 -/
theorem c_X6_set_1 (lu : Launch) (Dg : va_G) (E : Nat → ClassId) (N : Nat) (G : Nat → Nat) (shp : Nat → (Nat → Int32) → va_E) (σ : Nat → Nat → Int32) {b : Nat} (hM : ModS E G shp N b) (f0 f1 f2 f3 f4 f5 f6 : Nat → Int32)  (x y : Int32) (hx : ¬ Rg 4 x)  : CS lu yX6_set wsX6_set { frames := 2, cells := 0, slots := 0, locals := 43 } Dg E N G shp (mk7 σ b f0 f1 f2 f3 f4 f5 f6) [.ref (G b), .int x, .int y] (some (.int (nI 0))) (mk7 σ b (upd f0 0 (nI 1)) f1 f2 f3 f4 f5 f6) := by
  refine CS.of (cc := cX6_set) (maxL := 4) (ret := (some .int)) (by decide) rfl (Nat.le_of_ble_eq_true rfl) ?_
  intro p_ e_ s_ m_ args_ below_ meth_ c_
  refine v_eq (pc' := 0) (st' := []) rfl rfl ?_
  refine v_loc [0, 1, 2] [(0, .ref (G b)), (1, .int x), (2, .int y)] rfl ?_
  refine v_aload_n 0 dX6_set_0 rfl rfl ?_
  refine v_iload_n 1 dX6_set_1 rfl rfl ?_
  refine v_iload_n 2 dX6_set_2 rfl rfl ?_
  refine u_callSv [.int x, .int y] [.ref (G b)] 2 (c_X6_isSetting_n lu Dg E N G shp (mk7 σ b f0 f1 f2 f3 f4 f5 f6) x y hx) gX6_set_X6_isSetting rfl rfl rfl (by decide +kernel) rfl ⟨Nat.le_of_ble_eq_true rfl, Nat.le_of_ble_eq_true rfl⟩ ⟨Nat.le_of_ble_eq_true rfl, Nat.le_of_ble_eq_true rfl⟩ (Nat.le_of_ble_eq_true rfl) rfl dX6_set_3 ?_
  refine v_if_eqN 13 (by omega) dX6_set_6 rfl (fun h6 => ?_) (fun h6 => ?_)
  · skip
    refine v_iconst (nI 1) dX6_set_13 (by decide +kernel) ?_
    refine u_callVv [.int (nI 1)] [] 1 (c_X6_holds lu Dg E N G shp σ hM f0 f1 f2 f3 f4 f5 f6 1 (by omega)) (ci := 6) (C := RX6) (T := TX6) (NF := 13) hM.n hM.s rfl gX6_set_X6_holds rfl rfl rfl (by decide +kernel) rfl ⟨Nat.le_of_ble_eq_true rfl, Nat.le_of_ble_eq_true rfl⟩ ⟨Nat.le_of_ble_eq_true rfl, Nat.le_of_ble_eq_true rfl⟩ (Nat.le_of_ble_eq_true rfl) rfl dX6_set_14 ?_
    refine v_if_neB 22 dX6_set_17 rfl (fun h17 => ?_) (fun h17 => ?_)
    · skip
      exact absurd h17 (by decide)
    · skip
      refine v_iconst (nI 0) dX6_set_20 (by decide +kernel) ?_
      refine v_iret rfl dX6_set_21 ⟨congrArg (fun z => some (Value.int z)) ?_, congrArg (φ shp) ?_⟩
      · rfl
      · rfl
  · skip
    omega

set_option maxHeartbeats 4000000 in
set_option maxRecDepth 100000 in
/-- set_2_0 -/
theorem c_X6_set_2_0 (lu : Launch) (Dg : va_G) (E : Nat → ClassId) (N : Nat) (G : Nat → Nat) (shp : Nat → (Nat → Int32) → va_E) (σ : Nat → Nat → Int32) {b : Nat} (hM : ModS E G shp N b) (f0 f1 f2 f3 f4 f5 f6 : Nat → Int32)  (y : Int32) (hy : ¬ (nI 10 ≤ y ∧ y ≤ nI 99))  : CS lu yX6_set wsX6_set { frames := 2, cells := 0, slots := 0, locals := 43 } Dg E N G shp (mk7 σ b f0 f1 f2 f3 f4 f5 f6) [.ref (G b), .int (nI 0), .int y] (some (.int (nI 0))) (mk7 σ b (upd f0 0 (nI 1)) f1 f2 f3 f4 f5 f6) := by
  refine CS.of (cc := cX6_set) (maxL := 4) (ret := (some .int)) (by decide) rfl (Nat.le_of_ble_eq_true rfl) ?_
  intro p_ e_ s_ m_ args_ below_ meth_ c_
  refine v_eq (pc' := 0) (st' := []) rfl rfl ?_
  refine v_loc [0, 1, 2] [(0, .ref (G b)), (1, .int (nI 0)), (2, .int y)] rfl ?_
  refine v_aload_n 0 dX6_set_0 rfl rfl ?_
  refine v_iload_n 1 dX6_set_1 rfl rfl ?_
  refine v_iload_n 2 dX6_set_2 rfl rfl ?_
  refine u_callSv [.int (nI 0), .int y] [.ref (G b)] 2 (c_X6_isSetting_0 lu Dg E N G shp (mk7 σ b f0 f1 f2 f3 f4 f5 f6) y) gX6_set_X6_isSetting rfl rfl rfl (by decide +kernel) rfl ⟨Nat.le_of_ble_eq_true rfl, Nat.le_of_ble_eq_true rfl⟩ ⟨Nat.le_of_ble_eq_true rfl, Nat.le_of_ble_eq_true rfl⟩ (Nat.le_of_ble_eq_true rfl) rfl dX6_set_3 ?_
  refine v_if_eqB 13 dX6_set_6 rfl (fun h6 => ?_) (fun h6 => ?_)
  · skip
    refine v_iconst (nI 1) dX6_set_13 (by decide +kernel) ?_
    refine u_callVv [.int (nI 1)] [] 1 (c_X6_holds lu Dg E N G shp σ hM f0 f1 f2 f3 f4 f5 f6 1 (by omega)) (ci := 6) (C := RX6) (T := TX6) (NF := 13) hM.n hM.s rfl gX6_set_X6_holds rfl rfl rfl (by decide +kernel) rfl ⟨Nat.le_of_ble_eq_true rfl, Nat.le_of_ble_eq_true rfl⟩ ⟨Nat.le_of_ble_eq_true rfl, Nat.le_of_ble_eq_true rfl⟩ (Nat.le_of_ble_eq_true rfl) rfl dX6_set_14 ?_
    refine v_if_neB 22 dX6_set_17 rfl (fun h17 => ?_) (fun h17 => ?_)
    · skip
      exact absurd h17 (by decide)
    · skip
      refine v_iconst (nI 0) dX6_set_20 (by decide +kernel) ?_
      refine v_iret rfl dX6_set_21 ⟨congrArg (fun z => some (Value.int z)) ?_, congrArg (φ shp) ?_⟩
      · rfl
      · rfl
  · skip
    exact absurd h6 hy

set_option maxRecDepth 100000 in
theorem inX6_set_X6 : ∀ w ∈ wsX60, w ∈ wsX6_set := by decide +kernel
set_option maxHeartbeats 4000000 in
set_option maxRecDepth 100000 in
/-- set_0_0 -/
theorem c_X6_set_0_0 (lu : Launch) (Dg : va_G) (E : Nat → ClassId) (N : Nat) (G : Nat → Nat) (shp : Nat → (Nat → Int32) → va_E) (σ : Nat → Nat → Int32) {b : Nat} (hM : ModS E G shp N b) (f0 f1 f2 f3 f4 f5 f6 : Nat → Int32)  (y : Int32) (hy : nI 10 ≤ y ∧ y ≤ nI 99) {m : Nat} (hm : f0 5 = nI m) (h14 : m ≤ 14)  : CS lu yX6_set wsX6_set { frames := 2, cells := 0, slots := 0, locals := 43 } Dg E N G shp (mk7 σ b f0 f1 f2 f3 f4 f5 f6) [.ref (G b), .int (nI 0), .int y] (some (.int (f1 6))) (mk7 σ b (upd (upd f0 0 (nI 0)) 5 (nI (min (m + 1) 14))) (upd f1 6 y) f2 (remF f1 f3 m) f4 f5 f6) := by
  refine CS.of (cc := cX6_set) (maxL := 4) (ret := (some .int)) (by decide) rfl (Nat.le_of_ble_eq_true rfl) ?_
  intro p_ e_ s_ m_ args_ below_ meth_ c_
  refine v_eq (pc' := 0) (st' := []) rfl rfl ?_
  refine v_loc [0, 1, 2] [(0, .ref (G b)), (1, .int (nI 0)), (2, .int y)] rfl ?_
  refine v_aload_n 0 dX6_set_0 rfl rfl ?_
  refine v_iload_n 1 dX6_set_1 rfl rfl ?_
  refine v_iload_n 2 dX6_set_2 rfl rfl ?_
  refine u_callSv [.int (nI 0), .int y] [.ref (G b)] 2 (c_X6_isSetting_0 lu Dg E N G shp (mk7 σ b f0 f1 f2 f3 f4 f5 f6) y) gX6_set_X6_isSetting rfl rfl rfl (by decide +kernel) rfl ⟨Nat.le_of_ble_eq_true rfl, Nat.le_of_ble_eq_true rfl⟩ ⟨Nat.le_of_ble_eq_true rfl, Nat.le_of_ble_eq_true rfl⟩ (Nat.le_of_ble_eq_true rfl) rfl dX6_set_3 ?_
  refine v_if_eqB 13 dX6_set_6 rfl (fun h6 => ?_) (fun h6 => ?_)
  · skip
    exact absurd hy h6
  · skip
    refine v_iconst (nI 0) dX6_set_9 (by decide +kernel) ?_
    refine v_goto 14 dX6_set_10 rfl ?_
    refine u_callVv [.int (nI 0)] [] 1 (c_X6_holds lu Dg E N G shp σ hM f0 f1 f2 f3 f4 f5 f6 0 (by omega)) (ci := 6) (C := RX6) (T := TX6) (NF := 13) hM.n hM.s rfl gX6_set_X6_holds rfl rfl rfl (by decide +kernel) rfl ⟨Nat.le_of_ble_eq_true rfl, Nat.le_of_ble_eq_true rfl⟩ ⟨Nat.le_of_ble_eq_true rfl, Nat.le_of_ble_eq_true rfl⟩ (Nat.le_of_ble_eq_true rfl) rfl dX6_set_14 ?_
    refine v_if_neB 22 dX6_set_17 rfl (fun h17 => ?_) (fun h17 => ?_)
    · skip
      refine v_aload_n 0 dX6_set_22 rfl rfl ?_
      refine u_callVn [] [] 0 (c_X6_remember lu Dg E N G shp σ hM (upd f0 0 (nI 0)) f1 f2 f3 f4 f5 f6 (m := m) (by rw [upd_ap, if_neg (by omega)]; exact hm) h14) (ci := 6) (C := RX6) (T := TX6) (NF := 13) hM.n hM.s rfl gX6_set_X6_remember rfl rfl rfl (by decide +kernel) rfl ⟨Nat.le_of_ble_eq_true rfl, Nat.le_of_ble_eq_true rfl⟩ ⟨Nat.le_of_ble_eq_true rfl, Nat.le_of_ble_eq_true rfl⟩ (Nat.le_of_ble_eq_true rfl) rfl dX6_set_23 ?_
      refine v_aload_n 0 dX6_set_26 rfl rfl ?_
      refine u_getr (k := 1) (C := RX6) (T := TX6) (NF := 13) hM.n hM.s rfl rfl inX6_set_X6 (by decide) (by decide +kernel) rfl dX6_set_27 ?_
      refine v_bipush (nI 6) dX6_set_30 (by decide +kernel) ?_
      refine v_iload_n 1 dX6_set_32 rfl rfl ?_
      refine v_iaddN dX6_set_33 ?_
      refine v_topi (nI 6) (rfl) ?_
      refine m_ld1 6 hM (rfl) (by omega) dX6_set_34 ?_
      refine v_istore_n [(3, .int (f1 6)), (0, .ref (G b)), (1, .int (nI 0)), (2, .int y)] dX6_set_35 rfl (by decide) rfl ?_
      refine v_aload_n 1 dX6_set_36 rfl rfl ?_
      refine u_getr (k := 1) (C := RX6) (T := TX6) (NF := 13) hM.n hM.s rfl rfl inX6_set_X6 (by decide) (by decide +kernel) rfl dX6_set_37 ?_
      refine v_bipush (nI 6) dX6_set_40 (by decide +kernel) ?_
      refine v_iload_n 2 dX6_set_42 rfl rfl ?_
      refine v_iaddN dX6_set_43 ?_
      refine v_topi (nI 6) (rfl) ?_
      refine v_iload_n 3 dX6_set_44 rfl rfl ?_
      refine m_st1 6 hM (rfl) (by omega) dX6_set_45 ?_
      generalize hg1 : upd f1 6 (y) = g1
      refine v_iload_n 0 dX6_set_46 rfl rfl ?_
      refine v_iret rfl dX6_set_47 ⟨congrArg (fun z => some (Value.int z)) ?_, congrArg (φ shp) ?_⟩
      · rfl
      · subst hg1; rfl
    · skip
      exact absurd rfl h17

set_option maxHeartbeats 4000000 in
set_option maxRecDepth 100000 in
/-- set_2_1 -/
theorem c_X6_set_2_1 (lu : Launch) (Dg : va_G) (E : Nat → ClassId) (N : Nat) (G : Nat → Nat) (shp : Nat → (Nat → Int32) → va_E) (σ : Nat → Nat → Int32) {b : Nat} (hM : ModS E G shp N b) (f0 f1 f2 f3 f4 f5 f6 : Nat → Int32)  (y : Int32) (hy : ¬ (nI 0 ≤ y ∧ y ≤ nI 50))  : CS lu yX6_set wsX6_set { frames := 2, cells := 0, slots := 0, locals := 43 } Dg E N G shp (mk7 σ b f0 f1 f2 f3 f4 f5 f6) [.ref (G b), .int (nI 1), .int y] (some (.int (nI 0))) (mk7 σ b (upd f0 0 (nI 1)) f1 f2 f3 f4 f5 f6) := by
  refine CS.of (cc := cX6_set) (maxL := 4) (ret := (some .int)) (by decide) rfl (Nat.le_of_ble_eq_true rfl) ?_
  intro p_ e_ s_ m_ args_ below_ meth_ c_
  refine v_eq (pc' := 0) (st' := []) rfl rfl ?_
  refine v_loc [0, 1, 2] [(0, .ref (G b)), (1, .int (nI 1)), (2, .int y)] rfl ?_
  refine v_aload_n 0 dX6_set_0 rfl rfl ?_
  refine v_iload_n 1 dX6_set_1 rfl rfl ?_
  refine v_iload_n 2 dX6_set_2 rfl rfl ?_
  refine u_callSv [.int (nI 1), .int y] [.ref (G b)] 2 (c_X6_isSetting_1 lu Dg E N G shp (mk7 σ b f0 f1 f2 f3 f4 f5 f6) y) gX6_set_X6_isSetting rfl rfl rfl (by decide +kernel) rfl ⟨Nat.le_of_ble_eq_true rfl, Nat.le_of_ble_eq_true rfl⟩ ⟨Nat.le_of_ble_eq_true rfl, Nat.le_of_ble_eq_true rfl⟩ (Nat.le_of_ble_eq_true rfl) rfl dX6_set_3 ?_
  refine v_if_eqB 13 dX6_set_6 rfl (fun h6 => ?_) (fun h6 => ?_)
  · skip
    refine v_iconst (nI 1) dX6_set_13 (by decide +kernel) ?_
    refine u_callVv [.int (nI 1)] [] 1 (c_X6_holds lu Dg E N G shp σ hM f0 f1 f2 f3 f4 f5 f6 1 (by omega)) (ci := 6) (C := RX6) (T := TX6) (NF := 13) hM.n hM.s rfl gX6_set_X6_holds rfl rfl rfl (by decide +kernel) rfl ⟨Nat.le_of_ble_eq_true rfl, Nat.le_of_ble_eq_true rfl⟩ ⟨Nat.le_of_ble_eq_true rfl, Nat.le_of_ble_eq_true rfl⟩ (Nat.le_of_ble_eq_true rfl) rfl dX6_set_14 ?_
    refine v_if_neB 22 dX6_set_17 rfl (fun h17 => ?_) (fun h17 => ?_)
    · skip
      exact absurd h17 (by decide)
    · skip
      refine v_iconst (nI 0) dX6_set_20 (by decide +kernel) ?_
      refine v_iret rfl dX6_set_21 ⟨congrArg (fun z => some (Value.int z)) ?_, congrArg (φ shp) ?_⟩
      · rfl
      · rfl
  · skip
    exact absurd h6 hy

set_option maxHeartbeats 4000000 in
set_option maxRecDepth 100000 in
/-- set_0_1 -/
theorem c_X6_set_0_1 (lu : Launch) (Dg : va_G) (E : Nat → ClassId) (N : Nat) (G : Nat → Nat) (shp : Nat → (Nat → Int32) → va_E) (σ : Nat → Nat → Int32) {b : Nat} (hM : ModS E G shp N b) (f0 f1 f2 f3 f4 f5 f6 : Nat → Int32)  (y : Int32) (hy : nI 0 ≤ y ∧ y ≤ nI 50) {m : Nat} (hm : f0 5 = nI m) (h14 : m ≤ 14)  : CS lu yX6_set wsX6_set { frames := 2, cells := 0, slots := 0, locals := 43 } Dg E N G shp (mk7 σ b f0 f1 f2 f3 f4 f5 f6) [.ref (G b), .int (nI 1), .int y] (some (.int (f1 7))) (mk7 σ b (upd (upd f0 0 (nI 0)) 5 (nI (min (m + 1) 14))) (upd f1 7 y) f2 (remF f1 f3 m) f4 f5 f6) := by
  refine CS.of (cc := cX6_set) (maxL := 4) (ret := (some .int)) (by decide) rfl (Nat.le_of_ble_eq_true rfl) ?_
  intro p_ e_ s_ m_ args_ below_ meth_ c_
  refine v_eq (pc' := 0) (st' := []) rfl rfl ?_
  refine v_loc [0, 1, 2] [(0, .ref (G b)), (1, .int (nI 1)), (2, .int y)] rfl ?_
  refine v_aload_n 0 dX6_set_0 rfl rfl ?_
  refine v_iload_n 1 dX6_set_1 rfl rfl ?_
  refine v_iload_n 2 dX6_set_2 rfl rfl ?_
  refine u_callSv [.int (nI 1), .int y] [.ref (G b)] 2 (c_X6_isSetting_1 lu Dg E N G shp (mk7 σ b f0 f1 f2 f3 f4 f5 f6) y) gX6_set_X6_isSetting rfl rfl rfl (by decide +kernel) rfl ⟨Nat.le_of_ble_eq_true rfl, Nat.le_of_ble_eq_true rfl⟩ ⟨Nat.le_of_ble_eq_true rfl, Nat.le_of_ble_eq_true rfl⟩ (Nat.le_of_ble_eq_true rfl) rfl dX6_set_3 ?_
  refine v_if_eqB 13 dX6_set_6 rfl (fun h6 => ?_) (fun h6 => ?_)
  · skip
    exact absurd hy h6
  · skip
    refine v_iconst (nI 0) dX6_set_9 (by decide +kernel) ?_
    refine v_goto 14 dX6_set_10 rfl ?_
    refine u_callVv [.int (nI 0)] [] 1 (c_X6_holds lu Dg E N G shp σ hM f0 f1 f2 f3 f4 f5 f6 0 (by omega)) (ci := 6) (C := RX6) (T := TX6) (NF := 13) hM.n hM.s rfl gX6_set_X6_holds rfl rfl rfl (by decide +kernel) rfl ⟨Nat.le_of_ble_eq_true rfl, Nat.le_of_ble_eq_true rfl⟩ ⟨Nat.le_of_ble_eq_true rfl, Nat.le_of_ble_eq_true rfl⟩ (Nat.le_of_ble_eq_true rfl) rfl dX6_set_14 ?_
    refine v_if_neB 22 dX6_set_17 rfl (fun h17 => ?_) (fun h17 => ?_)
    · skip
      refine v_aload_n 0 dX6_set_22 rfl rfl ?_
      refine u_callVn [] [] 0 (c_X6_remember lu Dg E N G shp σ hM (upd f0 0 (nI 0)) f1 f2 f3 f4 f5 f6 (m := m) (by rw [upd_ap, if_neg (by omega)]; exact hm) h14) (ci := 6) (C := RX6) (T := TX6) (NF := 13) hM.n hM.s rfl gX6_set_X6_remember rfl rfl rfl (by decide +kernel) rfl ⟨Nat.le_of_ble_eq_true rfl, Nat.le_of_ble_eq_true rfl⟩ ⟨Nat.le_of_ble_eq_true rfl, Nat.le_of_ble_eq_true rfl⟩ (Nat.le_of_ble_eq_true rfl) rfl dX6_set_23 ?_
      refine v_aload_n 0 dX6_set_26 rfl rfl ?_
      refine u_getr (k := 1) (C := RX6) (T := TX6) (NF := 13) hM.n hM.s rfl rfl inX6_set_X6 (by decide) (by decide +kernel) rfl dX6_set_27 ?_
      refine v_bipush (nI 6) dX6_set_30 (by decide +kernel) ?_
      refine v_iload_n 1 dX6_set_32 rfl rfl ?_
      refine v_iaddN dX6_set_33 ?_
      refine v_topi (nI 7) (rfl) ?_
      refine m_ld1 7 hM (rfl) (by omega) dX6_set_34 ?_
      refine v_istore_n [(3, .int (f1 7)), (0, .ref (G b)), (1, .int (nI 1)), (2, .int y)] dX6_set_35 rfl (by decide) rfl ?_
      refine v_aload_n 1 dX6_set_36 rfl rfl ?_
      refine u_getr (k := 1) (C := RX6) (T := TX6) (NF := 13) hM.n hM.s rfl rfl inX6_set_X6 (by decide) (by decide +kernel) rfl dX6_set_37 ?_
      refine v_bipush (nI 6) dX6_set_40 (by decide +kernel) ?_
      refine v_iload_n 2 dX6_set_42 rfl rfl ?_
      refine v_iaddN dX6_set_43 ?_
      refine v_topi (nI 7) (rfl) ?_
      refine v_iload_n 3 dX6_set_44 rfl rfl ?_
      refine m_st1 7 hM (rfl) (by omega) dX6_set_45 ?_
      generalize hg1 : upd f1 7 (y) = g1
      refine v_iload_n 0 dX6_set_46 rfl rfl ?_
      refine v_iret rfl dX6_set_47 ⟨congrArg (fun z => some (Value.int z)) ?_, congrArg (φ shp) ?_⟩
      · rfl
      · subst hg1; rfl
    · skip
      exact absurd rfl h17

set_option maxHeartbeats 4000000 in
set_option maxRecDepth 100000 in
/-- set_2_2 -/
theorem c_X6_set_2_2 (lu : Launch) (Dg : va_G) (E : Nat → ClassId) (N : Nat) (G : Nat → Nat) (shp : Nat → (Nat → Int32) → va_E) (σ : Nat → Nat → Int32) {b : Nat} (hM : ModS E G shp N b) (f0 f1 f2 f3 f4 f5 f6 : Nat → Int32)  (y : Int32) (hy : ¬ (nI 1 ≤ y ∧ y ≤ nI 9))  : CS lu yX6_set wsX6_set { frames := 2, cells := 0, slots := 0, locals := 43 } Dg E N G shp (mk7 σ b f0 f1 f2 f3 f4 f5 f6) [.ref (G b), .int (nI 2), .int y] (some (.int (nI 0))) (mk7 σ b (upd f0 0 (nI 1)) f1 f2 f3 f4 f5 f6) := by
  refine CS.of (cc := cX6_set) (maxL := 4) (ret := (some .int)) (by decide) rfl (Nat.le_of_ble_eq_true rfl) ?_
  intro p_ e_ s_ m_ args_ below_ meth_ c_
  refine v_eq (pc' := 0) (st' := []) rfl rfl ?_
  refine v_loc [0, 1, 2] [(0, .ref (G b)), (1, .int (nI 2)), (2, .int y)] rfl ?_
  refine v_aload_n 0 dX6_set_0 rfl rfl ?_
  refine v_iload_n 1 dX6_set_1 rfl rfl ?_
  refine v_iload_n 2 dX6_set_2 rfl rfl ?_
  refine u_callSv [.int (nI 2), .int y] [.ref (G b)] 2 (c_X6_isSetting_2 lu Dg E N G shp (mk7 σ b f0 f1 f2 f3 f4 f5 f6) y) gX6_set_X6_isSetting rfl rfl rfl (by decide +kernel) rfl ⟨Nat.le_of_ble_eq_true rfl, Nat.le_of_ble_eq_true rfl⟩ ⟨Nat.le_of_ble_eq_true rfl, Nat.le_of_ble_eq_true rfl⟩ (Nat.le_of_ble_eq_true rfl) rfl dX6_set_3 ?_
  refine v_if_eqB 13 dX6_set_6 rfl (fun h6 => ?_) (fun h6 => ?_)
  · skip
    refine v_iconst (nI 1) dX6_set_13 (by decide +kernel) ?_
    refine u_callVv [.int (nI 1)] [] 1 (c_X6_holds lu Dg E N G shp σ hM f0 f1 f2 f3 f4 f5 f6 1 (by omega)) (ci := 6) (C := RX6) (T := TX6) (NF := 13) hM.n hM.s rfl gX6_set_X6_holds rfl rfl rfl (by decide +kernel) rfl ⟨Nat.le_of_ble_eq_true rfl, Nat.le_of_ble_eq_true rfl⟩ ⟨Nat.le_of_ble_eq_true rfl, Nat.le_of_ble_eq_true rfl⟩ (Nat.le_of_ble_eq_true rfl) rfl dX6_set_14 ?_
    refine v_if_neB 22 dX6_set_17 rfl (fun h17 => ?_) (fun h17 => ?_)
    · skip
      exact absurd h17 (by decide)
    · skip
      refine v_iconst (nI 0) dX6_set_20 (by decide +kernel) ?_
      refine v_iret rfl dX6_set_21 ⟨congrArg (fun z => some (Value.int z)) ?_, congrArg (φ shp) ?_⟩
      · rfl
      · rfl
  · skip
    exact absurd h6 hy

set_option maxHeartbeats 4000000 in
set_option maxRecDepth 100000 in
/-- set_0_2 -/
theorem c_X6_set_0_2 (lu : Launch) (Dg : va_G) (E : Nat → ClassId) (N : Nat) (G : Nat → Nat) (shp : Nat → (Nat → Int32) → va_E) (σ : Nat → Nat → Int32) {b : Nat} (hM : ModS E G shp N b) (f0 f1 f2 f3 f4 f5 f6 : Nat → Int32)  (y : Int32) (hy : nI 1 ≤ y ∧ y ≤ nI 9) {m : Nat} (hm : f0 5 = nI m) (h14 : m ≤ 14)  : CS lu yX6_set wsX6_set { frames := 2, cells := 0, slots := 0, locals := 43 } Dg E N G shp (mk7 σ b f0 f1 f2 f3 f4 f5 f6) [.ref (G b), .int (nI 2), .int y] (some (.int (f1 8))) (mk7 σ b (upd (upd f0 0 (nI 0)) 5 (nI (min (m + 1) 14))) (upd f1 8 y) f2 (remF f1 f3 m) f4 f5 f6) := by
  refine CS.of (cc := cX6_set) (maxL := 4) (ret := (some .int)) (by decide) rfl (Nat.le_of_ble_eq_true rfl) ?_
  intro p_ e_ s_ m_ args_ below_ meth_ c_
  refine v_eq (pc' := 0) (st' := []) rfl rfl ?_
  refine v_loc [0, 1, 2] [(0, .ref (G b)), (1, .int (nI 2)), (2, .int y)] rfl ?_
  refine v_aload_n 0 dX6_set_0 rfl rfl ?_
  refine v_iload_n 1 dX6_set_1 rfl rfl ?_
  refine v_iload_n 2 dX6_set_2 rfl rfl ?_
  refine u_callSv [.int (nI 2), .int y] [.ref (G b)] 2 (c_X6_isSetting_2 lu Dg E N G shp (mk7 σ b f0 f1 f2 f3 f4 f5 f6) y) gX6_set_X6_isSetting rfl rfl rfl (by decide +kernel) rfl ⟨Nat.le_of_ble_eq_true rfl, Nat.le_of_ble_eq_true rfl⟩ ⟨Nat.le_of_ble_eq_true rfl, Nat.le_of_ble_eq_true rfl⟩ (Nat.le_of_ble_eq_true rfl) rfl dX6_set_3 ?_
  refine v_if_eqB 13 dX6_set_6 rfl (fun h6 => ?_) (fun h6 => ?_)
  · skip
    exact absurd hy h6
  · skip
    refine v_iconst (nI 0) dX6_set_9 (by decide +kernel) ?_
    refine v_goto 14 dX6_set_10 rfl ?_
    refine u_callVv [.int (nI 0)] [] 1 (c_X6_holds lu Dg E N G shp σ hM f0 f1 f2 f3 f4 f5 f6 0 (by omega)) (ci := 6) (C := RX6) (T := TX6) (NF := 13) hM.n hM.s rfl gX6_set_X6_holds rfl rfl rfl (by decide +kernel) rfl ⟨Nat.le_of_ble_eq_true rfl, Nat.le_of_ble_eq_true rfl⟩ ⟨Nat.le_of_ble_eq_true rfl, Nat.le_of_ble_eq_true rfl⟩ (Nat.le_of_ble_eq_true rfl) rfl dX6_set_14 ?_
    refine v_if_neB 22 dX6_set_17 rfl (fun h17 => ?_) (fun h17 => ?_)
    · skip
      refine v_aload_n 0 dX6_set_22 rfl rfl ?_
      refine u_callVn [] [] 0 (c_X6_remember lu Dg E N G shp σ hM (upd f0 0 (nI 0)) f1 f2 f3 f4 f5 f6 (m := m) (by rw [upd_ap, if_neg (by omega)]; exact hm) h14) (ci := 6) (C := RX6) (T := TX6) (NF := 13) hM.n hM.s rfl gX6_set_X6_remember rfl rfl rfl (by decide +kernel) rfl ⟨Nat.le_of_ble_eq_true rfl, Nat.le_of_ble_eq_true rfl⟩ ⟨Nat.le_of_ble_eq_true rfl, Nat.le_of_ble_eq_true rfl⟩ (Nat.le_of_ble_eq_true rfl) rfl dX6_set_23 ?_
      refine v_aload_n 0 dX6_set_26 rfl rfl ?_
      refine u_getr (k := 1) (C := RX6) (T := TX6) (NF := 13) hM.n hM.s rfl rfl inX6_set_X6 (by decide) (by decide +kernel) rfl dX6_set_27 ?_
      refine v_bipush (nI 6) dX6_set_30 (by decide +kernel) ?_
      refine v_iload_n 1 dX6_set_32 rfl rfl ?_
      refine v_iaddN dX6_set_33 ?_
      refine v_topi (nI 8) (rfl) ?_
      refine m_ld1 8 hM (rfl) (by omega) dX6_set_34 ?_
      refine v_istore_n [(3, .int (f1 8)), (0, .ref (G b)), (1, .int (nI 2)), (2, .int y)] dX6_set_35 rfl (by decide) rfl ?_
      refine v_aload_n 1 dX6_set_36 rfl rfl ?_
      refine u_getr (k := 1) (C := RX6) (T := TX6) (NF := 13) hM.n hM.s rfl rfl inX6_set_X6 (by decide) (by decide +kernel) rfl dX6_set_37 ?_
      refine v_bipush (nI 6) dX6_set_40 (by decide +kernel) ?_
      refine v_iload_n 2 dX6_set_42 rfl rfl ?_
      refine v_iaddN dX6_set_43 ?_
      refine v_topi (nI 8) (rfl) ?_
      refine v_iload_n 3 dX6_set_44 rfl rfl ?_
      refine m_st1 8 hM (rfl) (by omega) dX6_set_45 ?_
      generalize hg1 : upd f1 8 (y) = g1
      refine v_iload_n 0 dX6_set_46 rfl rfl ?_
      refine v_iret rfl dX6_set_47 ⟨congrArg (fun z => some (Value.int z)) ?_, congrArg (φ shp) ?_⟩
      · rfl
      · subst hg1; rfl
    · skip
      exact absurd rfl h17

set_option maxHeartbeats 4000000 in
set_option maxRecDepth 100000 in
/-- set_2_3 -/
theorem c_X6_set_2_3 (lu : Launch) (Dg : va_G) (E : Nat → ClassId) (N : Nat) (G : Nat → Nat) (shp : Nat → (Nat → Int32) → va_E) (σ : Nat → Nat → Int32) {b : Nat} (hM : ModS E G shp N b) (f0 f1 f2 f3 f4 f5 f6 : Nat → Int32)  (y : Int32) (hy : ¬ (nI 1 ≤ y ∧ y ≤ nI 5))  : CS lu yX6_set wsX6_set { frames := 2, cells := 0, slots := 0, locals := 43 } Dg E N G shp (mk7 σ b f0 f1 f2 f3 f4 f5 f6) [.ref (G b), .int (nI 3), .int y] (some (.int (nI 0))) (mk7 σ b (upd f0 0 (nI 1)) f1 f2 f3 f4 f5 f6) := by
  refine CS.of (cc := cX6_set) (maxL := 4) (ret := (some .int)) (by decide) rfl (Nat.le_of_ble_eq_true rfl) ?_
  intro p_ e_ s_ m_ args_ below_ meth_ c_
  refine v_eq (pc' := 0) (st' := []) rfl rfl ?_
  refine v_loc [0, 1, 2] [(0, .ref (G b)), (1, .int (nI 3)), (2, .int y)] rfl ?_
  refine v_aload_n 0 dX6_set_0 rfl rfl ?_
  refine v_iload_n 1 dX6_set_1 rfl rfl ?_
  refine v_iload_n 2 dX6_set_2 rfl rfl ?_
  refine u_callSv [.int (nI 3), .int y] [.ref (G b)] 2 (c_X6_isSetting_3 lu Dg E N G shp (mk7 σ b f0 f1 f2 f3 f4 f5 f6) y) gX6_set_X6_isSetting rfl rfl rfl (by decide +kernel) rfl ⟨Nat.le_of_ble_eq_true rfl, Nat.le_of_ble_eq_true rfl⟩ ⟨Nat.le_of_ble_eq_true rfl, Nat.le_of_ble_eq_true rfl⟩ (Nat.le_of_ble_eq_true rfl) rfl dX6_set_3 ?_
  refine v_if_eqB 13 dX6_set_6 rfl (fun h6 => ?_) (fun h6 => ?_)
  · skip
    refine v_iconst (nI 1) dX6_set_13 (by decide +kernel) ?_
    refine u_callVv [.int (nI 1)] [] 1 (c_X6_holds lu Dg E N G shp σ hM f0 f1 f2 f3 f4 f5 f6 1 (by omega)) (ci := 6) (C := RX6) (T := TX6) (NF := 13) hM.n hM.s rfl gX6_set_X6_holds rfl rfl rfl (by decide +kernel) rfl ⟨Nat.le_of_ble_eq_true rfl, Nat.le_of_ble_eq_true rfl⟩ ⟨Nat.le_of_ble_eq_true rfl, Nat.le_of_ble_eq_true rfl⟩ (Nat.le_of_ble_eq_true rfl) rfl dX6_set_14 ?_
    refine v_if_neB 22 dX6_set_17 rfl (fun h17 => ?_) (fun h17 => ?_)
    · skip
      exact absurd h17 (by decide)
    · skip
      refine v_iconst (nI 0) dX6_set_20 (by decide +kernel) ?_
      refine v_iret rfl dX6_set_21 ⟨congrArg (fun z => some (Value.int z)) ?_, congrArg (φ shp) ?_⟩
      · rfl
      · rfl
  · skip
    exact absurd h6 hy

set_option maxHeartbeats 4000000 in
set_option maxRecDepth 100000 in
/-- set_0_3 -/
theorem c_X6_set_0_3 (lu : Launch) (Dg : va_G) (E : Nat → ClassId) (N : Nat) (G : Nat → Nat) (shp : Nat → (Nat → Int32) → va_E) (σ : Nat → Nat → Int32) {b : Nat} (hM : ModS E G shp N b) (f0 f1 f2 f3 f4 f5 f6 : Nat → Int32)  (y : Int32) (hy : nI 1 ≤ y ∧ y ≤ nI 5) {m : Nat} (hm : f0 5 = nI m) (h14 : m ≤ 14)  : CS lu yX6_set wsX6_set { frames := 2, cells := 0, slots := 0, locals := 43 } Dg E N G shp (mk7 σ b f0 f1 f2 f3 f4 f5 f6) [.ref (G b), .int (nI 3), .int y] (some (.int (f1 9))) (mk7 σ b (upd (upd f0 0 (nI 0)) 5 (nI (min (m + 1) 14))) (upd f1 9 y) f2 (remF f1 f3 m) f4 f5 f6) := by
  refine CS.of (cc := cX6_set) (maxL := 4) (ret := (some .int)) (by decide) rfl (Nat.le_of_ble_eq_true rfl) ?_
  intro p_ e_ s_ m_ args_ below_ meth_ c_
  refine v_eq (pc' := 0) (st' := []) rfl rfl ?_
  refine v_loc [0, 1, 2] [(0, .ref (G b)), (1, .int (nI 3)), (2, .int y)] rfl ?_
  refine v_aload_n 0 dX6_set_0 rfl rfl ?_
  refine v_iload_n 1 dX6_set_1 rfl rfl ?_
  refine v_iload_n 2 dX6_set_2 rfl rfl ?_
  refine u_callSv [.int (nI 3), .int y] [.ref (G b)] 2 (c_X6_isSetting_3 lu Dg E N G shp (mk7 σ b f0 f1 f2 f3 f4 f5 f6) y) gX6_set_X6_isSetting rfl rfl rfl (by decide +kernel) rfl ⟨Nat.le_of_ble_eq_true rfl, Nat.le_of_ble_eq_true rfl⟩ ⟨Nat.le_of_ble_eq_true rfl, Nat.le_of_ble_eq_true rfl⟩ (Nat.le_of_ble_eq_true rfl) rfl dX6_set_3 ?_
  refine v_if_eqB 13 dX6_set_6 rfl (fun h6 => ?_) (fun h6 => ?_)
  · skip
    exact absurd hy h6
  · skip
    refine v_iconst (nI 0) dX6_set_9 (by decide +kernel) ?_
    refine v_goto 14 dX6_set_10 rfl ?_
    refine u_callVv [.int (nI 0)] [] 1 (c_X6_holds lu Dg E N G shp σ hM f0 f1 f2 f3 f4 f5 f6 0 (by omega)) (ci := 6) (C := RX6) (T := TX6) (NF := 13) hM.n hM.s rfl gX6_set_X6_holds rfl rfl rfl (by decide +kernel) rfl ⟨Nat.le_of_ble_eq_true rfl, Nat.le_of_ble_eq_true rfl⟩ ⟨Nat.le_of_ble_eq_true rfl, Nat.le_of_ble_eq_true rfl⟩ (Nat.le_of_ble_eq_true rfl) rfl dX6_set_14 ?_
    refine v_if_neB 22 dX6_set_17 rfl (fun h17 => ?_) (fun h17 => ?_)
    · skip
      refine v_aload_n 0 dX6_set_22 rfl rfl ?_
      refine u_callVn [] [] 0 (c_X6_remember lu Dg E N G shp σ hM (upd f0 0 (nI 0)) f1 f2 f3 f4 f5 f6 (m := m) (by rw [upd_ap, if_neg (by omega)]; exact hm) h14) (ci := 6) (C := RX6) (T := TX6) (NF := 13) hM.n hM.s rfl gX6_set_X6_remember rfl rfl rfl (by decide +kernel) rfl ⟨Nat.le_of_ble_eq_true rfl, Nat.le_of_ble_eq_true rfl⟩ ⟨Nat.le_of_ble_eq_true rfl, Nat.le_of_ble_eq_true rfl⟩ (Nat.le_of_ble_eq_true rfl) rfl dX6_set_23 ?_
      refine v_aload_n 0 dX6_set_26 rfl rfl ?_
      refine u_getr (k := 1) (C := RX6) (T := TX6) (NF := 13) hM.n hM.s rfl rfl inX6_set_X6 (by decide) (by decide +kernel) rfl dX6_set_27 ?_
      refine v_bipush (nI 6) dX6_set_30 (by decide +kernel) ?_
      refine v_iload_n 1 dX6_set_32 rfl rfl ?_
      refine v_iaddN dX6_set_33 ?_
      refine v_topi (nI 9) (rfl) ?_
      refine m_ld1 9 hM (rfl) (by omega) dX6_set_34 ?_
      refine v_istore_n [(3, .int (f1 9)), (0, .ref (G b)), (1, .int (nI 3)), (2, .int y)] dX6_set_35 rfl (by decide) rfl ?_
      refine v_aload_n 1 dX6_set_36 rfl rfl ?_
      refine u_getr (k := 1) (C := RX6) (T := TX6) (NF := 13) hM.n hM.s rfl rfl inX6_set_X6 (by decide) (by decide +kernel) rfl dX6_set_37 ?_
      refine v_bipush (nI 6) dX6_set_40 (by decide +kernel) ?_
      refine v_iload_n 2 dX6_set_42 rfl rfl ?_
      refine v_iaddN dX6_set_43 ?_
      refine v_topi (nI 9) (rfl) ?_
      refine v_iload_n 3 dX6_set_44 rfl rfl ?_
      refine m_st1 9 hM (rfl) (by omega) dX6_set_45 ?_
      generalize hg1 : upd f1 9 (y) = g1
      refine v_iload_n 0 dX6_set_46 rfl rfl ?_
      refine v_iret rfl dX6_set_47 ⟨congrArg (fun z => some (Value.int z)) ?_, congrArg (φ shp) ?_⟩
      · rfl
      · subst hg1; rfl
    · skip
      exact absurd rfl h17

set_option maxRecDepth 100000 in
theorem inX6_undo_X6 : ∀ w ∈ wsX60, w ∈ wsX6_undo := by decide +kernel
set_option maxHeartbeats 4000000 in
set_option maxRecDepth 100000 in
/-- undo_n -/
theorem c_X6_undo_n (lu : Launch) (Dg : va_G) (E : Nat → ClassId) (N : Nat) (G : Nat → Nat) (shp : Nat → (Nat → Int32) → va_E) (σ : Nat → Nat → Int32) {b : Nat} (hM : ModS E G shp N b) (f0 f1 f2 f3 f4 f5 f6 : Nat → Int32)  (hm : f0 5 = nI 0)  : CS lu yX6_undo wsX6_undo { frames := 1, cells := 0, slots := 0, locals := 21 } Dg E N G shp (mk7 σ b f0 f1 f2 f3 f4 f5 f6) [.ref (G b)] (some (.int (nI 0))) (mk7 σ b (upd f0 0 (nI 1)) f1 f2 f3 f4 f5 f6) := by
  refine CS.of (cc := cX6_undo) (maxL := 2) (ret := (some .int)) (by decide) rfl (Nat.le_of_ble_eq_true rfl) ?_
  intro p_ e_ s_ m_ args_ below_ meth_ c_
  refine v_eq (pc' := 0) (st' := []) rfl rfl ?_
  refine v_loc [0] [(0, .ref (G b))] rfl ?_
  refine v_aload_n 0 dX6_undo_0 rfl rfl ?_
  refine v_aload_n 0 dX6_undo_1 rfl rfl ?_
  refine m_geti (k := 5) hM rfl inX6_undo_X6 (by decide) (by decide +kernel) rfl dX6_undo_2 ?_
  refine v_topi (nI 0) (hm) ?_
  refine v_if_leN 12 (by omega) dX6_undo_5 rfl (fun h5 => ?_) (fun h5 => ?_)
  · skip
    refine v_iconst (nI 1) dX6_undo_12 (by decide +kernel) ?_
    refine u_callVv [.int (nI 1)] [] 1 (c_X6_holds lu Dg E N G shp σ hM f0 f1 f2 f3 f4 f5 f6 1 (by omega)) (ci := 6) (C := RX6) (T := TX6) (NF := 13) hM.n hM.s rfl gX6_undo_X6_holds rfl rfl rfl (by decide +kernel) rfl ⟨Nat.le_of_ble_eq_true rfl, Nat.le_of_ble_eq_true rfl⟩ ⟨Nat.le_of_ble_eq_true rfl, Nat.le_of_ble_eq_true rfl⟩ (Nat.le_of_ble_eq_true rfl) rfl dX6_undo_13 ?_
    refine v_if_neB 21 dX6_undo_16 rfl (fun h16 => ?_) (fun h16 => ?_)
    · skip
      exact absurd h16 (by decide)
    · skip
      refine v_iconst (nI 0) dX6_undo_19 (by decide +kernel) ?_
      refine v_iret rfl dX6_undo_20 ⟨congrArg (fun z => some (Value.int z)) ?_, congrArg (φ shp) ?_⟩
      · rfl
      · rfl
  · skip
    omega

set_option maxHeartbeats 4000000 in
set_option maxRecDepth 100000 in
/-- undo_0 -/
theorem c_X6_undo_0 (lu : Launch) (Dg : va_G) (E : Nat → ClassId) (N : Nat) (G : Nat → Nat) (shp : Nat → (Nat → Int32) → va_E) (σ : Nat → Nat → Int32) {b : Nat} (hM : ModS E G shp N b) (f0 f1 f2 f3 f4 f5 f6 : Nat → Int32)  {m : Nat} (hm : f0 5 = nI (m + 1)) (h14 : m < 14) (g : Nat → Int32) (hg : ∀ i, i < 358 → g i = f3 (358 * m + (i - 0)))  : CS lu yX6_undo wsX6_undo { frames := 1, cells := 0, slots := 0, locals := 21 } Dg E N G shp (mk7 σ b f0 f1 f2 f3 f4 f5 f6) [.ref (G b)] (some (.int (nI m))) (mk7 σ b (upd (upd f0 0 (nI 0)) 5 (nI m)) g f2 f3 f4 f5 f6) := by
  refine CS.of (cc := cX6_undo) (maxL := 2) (ret := (some .int)) (by decide) rfl (Nat.le_of_ble_eq_true rfl) ?_
  intro p_ e_ s_ m_ args_ below_ meth_ c_
  refine v_eq (pc' := 0) (st' := []) rfl rfl ?_
  refine v_loc [0] [(0, .ref (G b))] rfl ?_
  refine v_aload_n 0 dX6_undo_0 rfl rfl ?_
  refine v_aload_n 0 dX6_undo_1 rfl rfl ?_
  refine m_geti (k := 5) hM rfl inX6_undo_X6 (by decide) (by decide +kernel) rfl dX6_undo_2 ?_
  refine v_topi (nI (m + 1)) (hm) ?_
  refine v_if_leN 12 (by omega) dX6_undo_5 rfl (fun h5 => ?_) (fun h5 => ?_)
  · skip
    omega
  · skip
    refine v_iconst (nI 0) dX6_undo_8 (by decide +kernel) ?_
    refine v_goto 13 dX6_undo_9 rfl ?_
    refine u_callVv [.int (nI 0)] [] 1 (c_X6_holds lu Dg E N G shp σ hM f0 f1 f2 f3 f4 f5 f6 0 (by omega)) (ci := 6) (C := RX6) (T := TX6) (NF := 13) hM.n hM.s rfl gX6_undo_X6_holds rfl rfl rfl (by decide +kernel) rfl ⟨Nat.le_of_ble_eq_true rfl, Nat.le_of_ble_eq_true rfl⟩ ⟨Nat.le_of_ble_eq_true rfl, Nat.le_of_ble_eq_true rfl⟩ (Nat.le_of_ble_eq_true rfl) rfl dX6_undo_13 ?_
    refine v_if_neB 21 dX6_undo_16 rfl (fun h16 => ?_) (fun h16 => ?_)
    · skip
      refine v_aload_n 0 dX6_undo_21 rfl rfl ?_
      refine v_dup dX6_undo_22 rfl ?_
      refine m_geti (k := 5) hM rfl inX6_undo_X6 (by decide) (by decide +kernel) rfl dX6_undo_23 ?_
      refine v_topi (nI (m + 1)) ((by rw [upd_ap, if_neg (by omega)]; exact hm)) ?_
      refine v_iconst (nI 1) dX6_undo_26 (by decide +kernel) ?_
      refine v_isubN (by omega) dX6_undo_27 ?_
      refine v_topi (nI m) (congrArg nI (by omega)) ?_
      refine m_puti (k := 5) (ty := .int) hM rfl inX6_undo_X6 (by decide) (by decide +kernel) rfl rfl (by decide +kernel) ⟨rfl, rfl⟩ dX6_undo_28 ?_
      generalize hg1 : upd (upd f0 0 (nI 0)) 5 (nI m) = g1
      refine v_σ (mk7 σ b g1 (cpF f3 f1 (358 * m) 0 0) f2 f3 f4 f5 f6) (congrArg (fun z9 => mk7 σ b g1 z9 f2 f3 f4 f5 f6) ((cpF_0 _ _ _ _).symm)) ?_
      refine v_iconst (nI 0) dX6_undo_31 (by decide +kernel) ?_
      refine v_istore_n [(1, .int (nI 0)), (0, .ref (G b))] dX6_undo_32 rfl (by decide) rfl ?_
      refine v_loc [0, 1] [(1, .int (nI 0)), (0, .ref (G b))] rfl ?_
      refine u_loop1 (fun n (k : Nat) => k + n = 358) (fun (k : Nat) => mk7 σ b g1 (cpF f3 f1 (358 * m) 0 k) f2 f3 f4 f5 f6) (fun (k : Nat) => [(1, .int (nI k)), (0, .ref (G b))]) (358) 0 (rfl) ?_
      intro n k hL ih
      refine v_iload_n 0 dX6_undo_33 rfl rfl ?_
      refine v_sipush (nI 358) dX6_undo_34 (by decide +kernel) ?_
      refine v_icmp_geN 67 (by omega) (by omega) dX6_undo_37 rfl (fun h37 => ?_) (fun h37 => ?_)
      · skip
        obtain rfl : k = 358 := by omega
        refine m_junk1 g hM (fun i hi => by rw [cpF_in _ _ (Nat.zero_le i) (by omega)]; exact hg i hi) ?_
        refine v_aload_n 1 dX6_undo_67 rfl rfl ?_
        refine m_geti (k := 5) hM rfl inX6_undo_X6 (by decide) (by decide +kernel) rfl dX6_undo_68 ?_
        refine v_topi (nI m) ((by rw [← hg1, upd_ap, if_pos rfl])) ?_
        refine v_iret rfl dX6_undo_71 ⟨congrArg (fun z => some (Value.int z)) ?_, congrArg (φ shp) ?_⟩
        · rfl
        · subst hg1; rfl
      · skip
        refine v_aload_n 1 dX6_undo_40 rfl rfl ?_
        refine u_getr (k := 1) (C := RX6) (T := TX6) (NF := 13) hM.n hM.s rfl rfl inX6_undo_X6 (by decide) (by decide +kernel) rfl dX6_undo_41 ?_
        refine v_iload_n 0 dX6_undo_44 rfl rfl ?_
        refine v_aload_n 1 dX6_undo_45 rfl rfl ?_
        refine u_getr (k := 4) (C := RX6) (T := TX6) (NF := 13) hM.n hM.s rfl rfl inX6_undo_X6 (by decide) (by decide +kernel) rfl dX6_undo_46 ?_
        refine v_sipush (nI 358) dX6_undo_49 (by decide +kernel) ?_
        refine v_aload_n 1 dX6_undo_52 rfl rfl ?_
        refine m_geti (k := 5) hM rfl inX6_undo_X6 (by decide) (by decide +kernel) rfl dX6_undo_53 ?_
        refine v_topi (nI m) ((by rw [← hg1, upd_ap, if_pos rfl])) ?_
        refine v_imulN dX6_undo_56 ?_
        refine v_iload_n 0 dX6_undo_57 rfl rfl ?_
        refine v_iaddN dX6_undo_58 ?_
        refine m_ld3 (358 * m + k) hM (rfl) (by omega) dX6_undo_59 ?_
        refine m_st1 k hM (rfl) (by omega) dX6_undo_60 ?_
        generalize hg2 : upd (cpF f3 f1 (358 * m) 0 k) k (f3 (358 * m + k)) = g2
        refine v_σ (mk7 σ b g1 (cpF f3 f1 (358 * m) 0 (k + 1)) f2 f3 f4 f5 f6) (congrArg (fun z9 => mk7 σ b g1 z9 f2 f3 f4 f5 f6) ((by rw [← cpF_s, Nat.zero_add]; subst hg2; rfl))) ?_
        refine v_iincN 0 [(1, .int (nI (k + 1))), (0, .ref (G b))] dX6_undo_61 rfl (by decide) rfl ?_
        refine v_goto 33 dX6_undo_64 rfl ?_
        refine v_loc [0, 1] [(1, .int (nI (k + 1))), (0, .ref (G b))] rfl ?_
        exact ih _ (k + 1) (show n - 1 < n by omega) (by omega)
    · skip
      exact absurd rfl h16

set_option maxHeartbeats 4000000 in
set_option maxRecDepth 100000 in
/-- save_1 -/
theorem c_X6_save_1 (lu : Launch) (Dg : va_G) (E : Nat → ClassId) (N : Nat) (G : Nat → Nat) (shp : Nat → (Nat → Int32) → va_E) (σ : Nat → Nat → Int32) {b : Nat} (hM : ModS E G shp N b) (f0 f1 f2 f3 f4 f5 f6 : Nat → Int32)  (x : Int32) (hx : ¬ Rg 2 x)  : CS lu yX6_save wsX6_save { frames := 1, cells := 0, slots := 0, locals := 22 } Dg E N G shp (mk7 σ b f0 f1 f2 f3 f4 f5 f6) [.ref (G b), .int x] (some (.int (nI 0))) (mk7 σ b (upd f0 0 (nI 1)) f1 f2 f3 f4 f5 f6) := by
  refine CS.of (cc := cX6_save) (maxL := 3) (ret := (some .int)) (by decide) rfl (Nat.le_of_ble_eq_true rfl) ?_
  intro p_ e_ s_ m_ args_ below_ meth_ c_
  refine v_eq (pc' := 0) (st' := []) rfl rfl ?_
  refine v_loc [0, 1] [(0, .ref (G b)), (1, .int x)] rfl ?_
  refine v_aload_n 0 dX6_save_0 rfl rfl ?_
  refine v_iload_n 1 dX6_save_1 rfl rfl ?_
  refine v_iconst (nI 0) dX6_save_2 (by decide +kernel) ?_
  refine v_iconst (nI 1) dX6_save_3 (by decide +kernel) ?_
  refine u_callSv [.int x, .int (nI 0), .int (nI 1)] [.ref (G b)] 3 (c_X6_in lu Dg E N G shp (mk7 σ b f0 f1 f2 f3 f4 f5 f6) (x) (nI 0) (nI 1)) gX6_save_X6_in rfl rfl rfl (by decide +kernel) rfl ⟨Nat.le_of_ble_eq_true rfl, Nat.le_of_ble_eq_true rfl⟩ ⟨Nat.le_of_ble_eq_true rfl, Nat.le_of_ble_eq_true rfl⟩ (Nat.le_of_ble_eq_true rfl) rfl dX6_save_4 ?_
  refine v_if_eqB 14 dX6_save_7 rfl (fun h7 => ?_) (fun h7 => ?_)
  · skip
    refine v_iconst (nI 1) dX6_save_14 (by decide +kernel) ?_
    refine u_callVv [.int (nI 1)] [] 1 (c_X6_holds lu Dg E N G shp σ hM f0 f1 f2 f3 f4 f5 f6 1 (by omega)) (ci := 6) (C := RX6) (T := TX6) (NF := 13) hM.n hM.s rfl gX6_save_X6_holds rfl rfl rfl (by decide +kernel) rfl ⟨Nat.le_of_ble_eq_true rfl, Nat.le_of_ble_eq_true rfl⟩ ⟨Nat.le_of_ble_eq_true rfl, Nat.le_of_ble_eq_true rfl⟩ (Nat.le_of_ble_eq_true rfl) rfl dX6_save_15 ?_
    refine v_if_neB 23 dX6_save_18 rfl (fun h18 => ?_) (fun h18 => ?_)
    · skip
      exact absurd h18 (by decide)
    · skip
      refine v_iconst (nI 0) dX6_save_21 (by decide +kernel) ?_
      refine v_iret rfl dX6_save_22 ⟨congrArg (fun z => some (Value.int z)) ?_, congrArg (φ shp) ?_⟩
      · rfl
      · rfl
  · skip
    exact absurd ((Rg_le (n := 1) (by omega) x).mp h7) hx

set_option maxRecDepth 100000 in
theorem inX6_save_X6 : ∀ w ∈ wsX60, w ∈ wsX6_save := by decide +kernel
set_option maxHeartbeats 4000000 in
set_option maxRecDepth 100000 in
/-- save_0 -/
theorem c_X6_save_0 (lu : Launch) (Dg : va_G) (E : Nat → ClassId) (N : Nat) (G : Nat → Nat) (shp : Nat → (Nat → Int32) → va_E) (σ : Nat → Nat → Int32) {b : Nat} (hM : ModS E G shp N b) (f0 f1 f2 f3 f4 f5 f6 : Nat → Int32)  {y : Nat} (hy : y < 2)  : CS lu yX6_save wsX6_save { frames := 1, cells := 0, slots := 0, locals := 22 } Dg E N G shp (mk7 σ b f0 f1 f2 f3 f4 f5 f6) [.ref (G b), .int (nI y)] (some (.int (f1 0))) (mk7 σ b (upd f0 0 (nI 0)) f1 f2 f3 (cpF f1 f4 0 (358 * y) 358) (upd f5 y (nI 1)) f6) := by
  refine CS.of (cc := cX6_save) (maxL := 3) (ret := (some .int)) (by decide) rfl (Nat.le_of_ble_eq_true rfl) ?_
  intro p_ e_ s_ m_ args_ below_ meth_ c_
  refine v_eq (pc' := 0) (st' := []) rfl rfl ?_
  refine v_loc [0, 1] [(0, .ref (G b)), (1, .int (nI y))] rfl ?_
  refine v_aload_n 0 dX6_save_0 rfl rfl ?_
  refine v_iload_n 1 dX6_save_1 rfl rfl ?_
  refine v_iconst (nI 0) dX6_save_2 (by decide +kernel) ?_
  refine v_iconst (nI 1) dX6_save_3 (by decide +kernel) ?_
  refine u_callSv [.int (nI y), .int (nI 0), .int (nI 1)] [.ref (G b)] 3 (c_X6_in lu Dg E N G shp (mk7 σ b f0 f1 f2 f3 f4 f5 f6) (nI y) (nI 0) (nI 1)) gX6_save_X6_in rfl rfl rfl (by decide +kernel) rfl ⟨Nat.le_of_ble_eq_true rfl, Nat.le_of_ble_eq_true rfl⟩ ⟨Nat.le_of_ble_eq_true rfl, Nat.le_of_ble_eq_true rfl⟩ (Nat.le_of_ble_eq_true rfl) rfl dX6_save_4 ?_
  refine v_if_eqB 14 dX6_save_7 rfl (fun h7 => ?_) (fun h7 => ?_)
  · skip
    exact absurd ((Rg_le (n := 1) (by omega) (nI y)).mpr ⟨y, hy, rfl⟩) h7
  · skip
    refine v_iconst (nI 0) dX6_save_10 (by decide +kernel) ?_
    refine v_goto 15 dX6_save_11 rfl ?_
    refine u_callVv [.int (nI 0)] [] 1 (c_X6_holds lu Dg E N G shp σ hM f0 f1 f2 f3 f4 f5 f6 0 (by omega)) (ci := 6) (C := RX6) (T := TX6) (NF := 13) hM.n hM.s rfl gX6_save_X6_holds rfl rfl rfl (by decide +kernel) rfl ⟨Nat.le_of_ble_eq_true rfl, Nat.le_of_ble_eq_true rfl⟩ ⟨Nat.le_of_ble_eq_true rfl, Nat.le_of_ble_eq_true rfl⟩ (Nat.le_of_ble_eq_true rfl) rfl dX6_save_15 ?_
    refine v_if_neB 23 dX6_save_18 rfl (fun h18 => ?_) (fun h18 => ?_)
    · skip
      refine v_σ (mk7 σ b (upd f0 0 (nI 0)) f1 f2 f3 (cpF f1 f4 0 (358 * y) 0) f5 f6) (congrArg (fun z9 => mk7 σ b (upd f0 0 (nI 0)) f1 f2 f3 z9 f5 f6) ((cpF_0 _ _ _ _).symm)) ?_
      refine v_iconst (nI 0) dX6_save_23 (by decide +kernel) ?_
      refine v_istore_n [(2, .int (nI 0)), (0, .ref (G b)), (1, .int (nI y))] dX6_save_24 rfl (by decide) rfl ?_
      refine v_loc [0, 2, 1] [(2, .int (nI 0)), (1, .int (nI y)), (0, .ref (G b))] rfl ?_
      refine u_loop1 (fun n (k : Nat) => k + n = 358) (fun (k : Nat) => mk7 σ b (upd f0 0 (nI 0)) f1 f2 f3 (cpF f1 f4 0 (358 * y) k) f5 f6) (fun (k : Nat) => [(2, .int (nI k)), (1, .int (nI y)), (0, .ref (G b))]) (358) 0 (rfl) ?_
      intro n k hL ih
      refine v_iload_n 0 dX6_save_25 rfl rfl ?_
      refine v_sipush (nI 358) dX6_save_26 (by decide +kernel) ?_
      refine v_icmp_geN 56 (by omega) (by omega) dX6_save_29 rfl (fun h29 => ?_) (fun h29 => ?_)
      · skip
        obtain rfl : k = 358 := by omega
        refine v_aload_n 2 dX6_save_56 rfl rfl ?_
        refine u_getr (k := 7) (C := RX6) (T := TX6) (NF := 13) hM.n hM.s rfl rfl inX6_save_X6 (by decide) (by decide +kernel) rfl dX6_save_57 ?_
        refine v_iload_n 1 dX6_save_60 rfl rfl ?_
        refine v_iconst (nI 1) dX6_save_61 (by decide +kernel) ?_
        refine m_st5 y hM (rfl) (by omega) (by decide +kernel) dX6_save_62 ?_
        generalize hg1 : upd f5 y (nI 1) = g1
        refine v_aload_n 2 dX6_save_63 rfl rfl ?_
        refine u_getr (k := 1) (C := RX6) (T := TX6) (NF := 13) hM.n hM.s rfl rfl inX6_save_X6 (by decide) (by decide +kernel) rfl dX6_save_64 ?_
        refine v_iconst (nI 0) dX6_save_67 (by decide +kernel) ?_
        refine m_ld1 0 hM (rfl) (by omega) dX6_save_68 ?_
        refine v_iret rfl dX6_save_69 ⟨congrArg (fun z => some (Value.int z)) ?_, congrArg (φ shp) ?_⟩
        · rfl
        · subst hg1; rfl
      · skip
        refine v_aload_n 2 dX6_save_32 rfl rfl ?_
        refine u_getr (k := 6) (C := RX6) (T := TX6) (NF := 13) hM.n hM.s rfl rfl inX6_save_X6 (by decide) (by decide +kernel) rfl dX6_save_33 ?_
        refine v_sipush (nI 358) dX6_save_36 (by decide +kernel) ?_
        refine v_iload_n 1 dX6_save_39 rfl rfl ?_
        refine v_imulN dX6_save_40 ?_
        refine v_iload_n 0 dX6_save_41 rfl rfl ?_
        refine v_iaddN dX6_save_42 ?_
        refine v_aload_n 2 dX6_save_43 rfl rfl ?_
        refine u_getr (k := 1) (C := RX6) (T := TX6) (NF := 13) hM.n hM.s rfl rfl inX6_save_X6 (by decide) (by decide +kernel) rfl dX6_save_44 ?_
        refine v_iload_n 0 dX6_save_47 rfl rfl ?_
        refine m_ld1 k hM (rfl) (by omega) dX6_save_48 ?_
        refine m_st4 (358 * y + k) hM (rfl) (by omega) dX6_save_49 ?_
        generalize hg2 : upd (cpF f1 f4 0 (358 * y) k) (358 * y + k) (f1 k) = g2
        refine v_σ (mk7 σ b (upd f0 0 (nI 0)) f1 f2 f3 (cpF f1 f4 0 (358 * y) (k + 1)) f5 f6) (congrArg (fun z9 => mk7 σ b (upd f0 0 (nI 0)) f1 f2 f3 z9 f5 f6) ((by rw [← cpF_s, Nat.zero_add]; subst hg2; rfl))) ?_
        refine v_iincN 0 [(2, .int (nI (k + 1))), (1, .int (nI y)), (0, .ref (G b))] dX6_save_50 rfl (by decide) rfl ?_
        refine v_goto 25 dX6_save_53 rfl ?_
        refine v_loc [0, 1, 2] [(2, .int (nI (k + 1))), (1, .int (nI y)), (0, .ref (G b))] rfl ?_
        exact ih _ (k + 1) (show n - 1 < n by omega) (by omega)
    · skip
      exact absurd rfl h18

set_option maxHeartbeats 4000000 in
set_option maxRecDepth 100000 in
/-- restore_1 -/
theorem c_X6_restore_1 (lu : Launch) (Dg : va_G) (E : Nat → ClassId) (N : Nat) (G : Nat → Nat) (shp : Nat → (Nat → Int32) → va_E) (σ : Nat → Nat → Int32) {b : Nat} (hM : ModS E G shp N b) (f0 f1 f2 f3 f4 f5 f6 : Nat → Int32)  (x : Int32) (hx : ¬ Rg 2 x)  : CS lu yX6_restore wsX6_restore { frames := 1, cells := 0, slots := 0, locals := 22 } Dg E N G shp (mk7 σ b f0 f1 f2 f3 f4 f5 f6) [.ref (G b), .int x] (some (.int (nI 0))) (mk7 σ b (upd f0 0 (nI 1)) f1 f2 f3 f4 f5 f6) := by
  refine CS.of (cc := cX6_restore) (maxL := 3) (ret := (some .int)) (by decide) rfl (Nat.le_of_ble_eq_true rfl) ?_
  intro p_ e_ s_ m_ args_ below_ meth_ c_
  refine v_eq (pc' := 0) (st' := []) rfl rfl ?_
  refine v_loc [0, 1] [(0, .ref (G b)), (1, .int x)] rfl ?_
  refine v_aload_n 0 dX6_restore_0 rfl rfl ?_
  refine v_iload_n 1 dX6_restore_1 rfl rfl ?_
  refine v_iconst (nI 0) dX6_restore_2 (by decide +kernel) ?_
  refine v_iconst (nI 1) dX6_restore_3 (by decide +kernel) ?_
  refine u_callSv [.int x, .int (nI 0), .int (nI 1)] [.ref (G b)] 3 (c_X6_in lu Dg E N G shp (mk7 σ b f0 f1 f2 f3 f4 f5 f6) (x) (nI 0) (nI 1)) gX6_restore_X6_in rfl rfl rfl (by decide +kernel) rfl ⟨Nat.le_of_ble_eq_true rfl, Nat.le_of_ble_eq_true rfl⟩ ⟨Nat.le_of_ble_eq_true rfl, Nat.le_of_ble_eq_true rfl⟩ (Nat.le_of_ble_eq_true rfl) rfl dX6_restore_4 ?_
  refine v_if_neB 14 dX6_restore_7 rfl (fun h7 => ?_) (fun h7 => ?_)
  · skip
    exact absurd ((Rg_le (n := 1) (by omega) x).mp h7) hx
  · skip
    refine v_iconst (nI 1) dX6_restore_10 (by decide +kernel) ?_
    refine v_goto 28 dX6_restore_11 rfl ?_
    refine u_callVv [.int (nI 1)] [] 1 (c_X6_holds lu Dg E N G shp σ hM f0 f1 f2 f3 f4 f5 f6 1 (by omega)) (ci := 6) (C := RX6) (T := TX6) (NF := 13) hM.n hM.s rfl gX6_restore_X6_holds rfl rfl rfl (by decide +kernel) rfl ⟨Nat.le_of_ble_eq_true rfl, Nat.le_of_ble_eq_true rfl⟩ ⟨Nat.le_of_ble_eq_true rfl, Nat.le_of_ble_eq_true rfl⟩ (Nat.le_of_ble_eq_true rfl) rfl dX6_restore_28 ?_
    refine v_if_neB 36 dX6_restore_31 rfl (fun h31 => ?_) (fun h31 => ?_)
    · skip
      exact absurd h31 (by decide)
    · skip
      refine v_iconst (nI 0) dX6_restore_34 (by decide +kernel) ?_
      refine v_iret rfl dX6_restore_35 ⟨congrArg (fun z => some (Value.int z)) ?_, congrArg (φ shp) ?_⟩
      · rfl
      · rfl

set_option maxRecDepth 100000 in
theorem inX6_restore_X6 : ∀ w ∈ wsX60, w ∈ wsX6_restore := by decide +kernel
set_option maxHeartbeats 4000000 in
set_option maxRecDepth 100000 in
/-- restore_2 -/
theorem c_X6_restore_2 (lu : Launch) (Dg : va_G) (E : Nat → ClassId) (N : Nat) (G : Nat → Nat) (shp : Nat → (Nat → Int32) → va_E) (σ : Nat → Nat → Int32) {b : Nat} (hM : ModS E G shp N b) (f0 f1 f2 f3 f4 f5 f6 : Nat → Int32)  {y : Nat} (hy : y < 2) (hz : f5 y = 0)  : CS lu yX6_restore wsX6_restore { frames := 1, cells := 0, slots := 0, locals := 22 } Dg E N G shp (mk7 σ b f0 f1 f2 f3 f4 f5 f6) [.ref (G b), .int (nI y)] (some (.int (nI 0))) (mk7 σ b (upd f0 0 (nI 2)) f1 f2 f3 f4 f5 f6) := by
  refine CS.of (cc := cX6_restore) (maxL := 3) (ret := (some .int)) (by decide) rfl (Nat.le_of_ble_eq_true rfl) ?_
  intro p_ e_ s_ m_ args_ below_ meth_ c_
  refine v_eq (pc' := 0) (st' := []) rfl rfl ?_
  refine v_loc [0, 1] [(0, .ref (G b)), (1, .int (nI y))] rfl ?_
  refine v_aload_n 0 dX6_restore_0 rfl rfl ?_
  refine v_iload_n 1 dX6_restore_1 rfl rfl ?_
  refine v_iconst (nI 0) dX6_restore_2 (by decide +kernel) ?_
  refine v_iconst (nI 1) dX6_restore_3 (by decide +kernel) ?_
  refine u_callSv [.int (nI y), .int (nI 0), .int (nI 1)] [.ref (G b)] 3 (c_X6_in lu Dg E N G shp (mk7 σ b f0 f1 f2 f3 f4 f5 f6) (nI y) (nI 0) (nI 1)) gX6_restore_X6_in rfl rfl rfl (by decide +kernel) rfl ⟨Nat.le_of_ble_eq_true rfl, Nat.le_of_ble_eq_true rfl⟩ ⟨Nat.le_of_ble_eq_true rfl, Nat.le_of_ble_eq_true rfl⟩ (Nat.le_of_ble_eq_true rfl) rfl dX6_restore_4 ?_
  refine v_if_neB 14 dX6_restore_7 rfl (fun h7 => ?_) (fun h7 => ?_)
  · skip
    refine v_aload_n 0 dX6_restore_14 rfl rfl ?_
    refine u_getr (k := 7) (C := RX6) (T := TX6) (NF := 13) hM.n hM.s rfl rfl inX6_restore_X6 (by decide) (by decide +kernel) rfl dX6_restore_15 ?_
    refine v_iload_n 1 dX6_restore_18 rfl rfl ?_
    refine m_ld5 y hM (rfl) (by omega) dX6_restore_19 ?_
    refine v_if_ne 27 dX6_restore_20 rfl (fun h20 => ?_) (fun h20 => ?_)
    · skip
      exact absurd hz h20
    · skip
      refine v_iconst (nI 2) dX6_restore_23 (by decide +kernel) ?_
      refine v_goto 28 dX6_restore_24 rfl ?_
      refine u_callVv [.int (nI 2)] [] 1 (c_X6_holds lu Dg E N G shp σ hM f0 f1 f2 f3 f4 f5 f6 2 (by omega)) (ci := 6) (C := RX6) (T := TX6) (NF := 13) hM.n hM.s rfl gX6_restore_X6_holds rfl rfl rfl (by decide +kernel) rfl ⟨Nat.le_of_ble_eq_true rfl, Nat.le_of_ble_eq_true rfl⟩ ⟨Nat.le_of_ble_eq_true rfl, Nat.le_of_ble_eq_true rfl⟩ (Nat.le_of_ble_eq_true rfl) rfl dX6_restore_28 ?_
      refine v_if_neB 36 dX6_restore_31 rfl (fun h31 => ?_) (fun h31 => ?_)
      · skip
        exact absurd h31 (by decide)
      · skip
        refine v_iconst (nI 0) dX6_restore_34 (by decide +kernel) ?_
        refine v_iret rfl dX6_restore_35 ⟨congrArg (fun z => some (Value.int z)) ?_, congrArg (φ shp) ?_⟩
        · rfl
        · rfl
  · skip
    exact absurd ((Rg_le (n := 1) (by omega) (nI y)).mpr ⟨y, hy, rfl⟩) h7

set_option maxHeartbeats 4000000 in
set_option maxRecDepth 100000 in
/-- restore_0 -/
theorem c_X6_restore_0 (lu : Launch) (Dg : va_G) (E : Nat → ClassId) (N : Nat) (G : Nat → Nat) (shp : Nat → (Nat → Int32) → va_E) (σ : Nat → Nat → Int32) {b : Nat} (hM : ModS E G shp N b) (f0 f1 f2 f3 f4 f5 f6 : Nat → Int32)  {y : Nat} (hy : y < 2) (hz : ¬ f5 y = 0) (g : Nat → Int32) (hg : ∀ i, i < 358 → g i = f4 (358 * y + (i - 0)))  : CS lu yX6_restore wsX6_restore { frames := 1, cells := 0, slots := 0, locals := 22 } Dg E N G shp (mk7 σ b f0 f1 f2 f3 f4 f5 f6) [.ref (G b), .int (nI y)] (some (.int (g 0))) (mk7 σ b (upd (upd f0 0 (nI 0)) 5 (nI 0)) g f2 f3 f4 f5 f6) := by
  refine CS.of (cc := cX6_restore) (maxL := 3) (ret := (some .int)) (by decide) rfl (Nat.le_of_ble_eq_true rfl) ?_
  intro p_ e_ s_ m_ args_ below_ meth_ c_
  refine v_eq (pc' := 0) (st' := []) rfl rfl ?_
  refine v_loc [0, 1] [(0, .ref (G b)), (1, .int (nI y))] rfl ?_
  refine v_aload_n 0 dX6_restore_0 rfl rfl ?_
  refine v_iload_n 1 dX6_restore_1 rfl rfl ?_
  refine v_iconst (nI 0) dX6_restore_2 (by decide +kernel) ?_
  refine v_iconst (nI 1) dX6_restore_3 (by decide +kernel) ?_
  refine u_callSv [.int (nI y), .int (nI 0), .int (nI 1)] [.ref (G b)] 3 (c_X6_in lu Dg E N G shp (mk7 σ b f0 f1 f2 f3 f4 f5 f6) (nI y) (nI 0) (nI 1)) gX6_restore_X6_in rfl rfl rfl (by decide +kernel) rfl ⟨Nat.le_of_ble_eq_true rfl, Nat.le_of_ble_eq_true rfl⟩ ⟨Nat.le_of_ble_eq_true rfl, Nat.le_of_ble_eq_true rfl⟩ (Nat.le_of_ble_eq_true rfl) rfl dX6_restore_4 ?_
  refine v_if_neB 14 dX6_restore_7 rfl (fun h7 => ?_) (fun h7 => ?_)
  · skip
    refine v_aload_n 0 dX6_restore_14 rfl rfl ?_
    refine u_getr (k := 7) (C := RX6) (T := TX6) (NF := 13) hM.n hM.s rfl rfl inX6_restore_X6 (by decide) (by decide +kernel) rfl dX6_restore_15 ?_
    refine v_iload_n 1 dX6_restore_18 rfl rfl ?_
    refine m_ld5 y hM (rfl) (by omega) dX6_restore_19 ?_
    refine v_if_ne 27 dX6_restore_20 rfl (fun h20 => ?_) (fun h20 => ?_)
    · skip
      refine v_iconst (nI 0) dX6_restore_27 (by decide +kernel) ?_
      refine u_callVv [.int (nI 0)] [] 1 (c_X6_holds lu Dg E N G shp σ hM f0 f1 f2 f3 f4 f5 f6 0 (by omega)) (ci := 6) (C := RX6) (T := TX6) (NF := 13) hM.n hM.s rfl gX6_restore_X6_holds rfl rfl rfl (by decide +kernel) rfl ⟨Nat.le_of_ble_eq_true rfl, Nat.le_of_ble_eq_true rfl⟩ ⟨Nat.le_of_ble_eq_true rfl, Nat.le_of_ble_eq_true rfl⟩ (Nat.le_of_ble_eq_true rfl) rfl dX6_restore_28 ?_
      refine v_if_neB 36 dX6_restore_31 rfl (fun h31 => ?_) (fun h31 => ?_)
      · skip
        refine v_σ (mk7 σ b (upd f0 0 (nI 0)) (cpF f4 f1 (358 * y) 0 0) f2 f3 f4 f5 f6) (congrArg (fun z9 => mk7 σ b (upd f0 0 (nI 0)) z9 f2 f3 f4 f5 f6) ((cpF_0 _ _ _ _).symm)) ?_
        refine v_iconst (nI 0) dX6_restore_36 (by decide +kernel) ?_
        refine v_istore_n [(2, .int (nI 0)), (0, .ref (G b)), (1, .int (nI y))] dX6_restore_37 rfl (by decide) rfl ?_
        refine v_loc [0, 2, 1] [(2, .int (nI 0)), (1, .int (nI y)), (0, .ref (G b))] rfl ?_
        refine u_loop1 (fun n (k : Nat) => k + n = 358) (fun (k : Nat) => mk7 σ b (upd f0 0 (nI 0)) (cpF f4 f1 (358 * y) 0 k) f2 f3 f4 f5 f6) (fun (k : Nat) => [(2, .int (nI k)), (1, .int (nI y)), (0, .ref (G b))]) (358) 0 (rfl) ?_
        intro n k hL ih
        refine v_iload_n 0 dX6_restore_38 rfl rfl ?_
        refine v_sipush (nI 358) dX6_restore_39 (by decide +kernel) ?_
        refine v_icmp_geN 69 (by omega) (by omega) dX6_restore_42 rfl (fun h42 => ?_) (fun h42 => ?_)
        · skip
          obtain rfl : k = 358 := by omega
          refine m_junk1 g hM (fun i hi => by rw [cpF_in _ _ (Nat.zero_le i) (by omega)]; exact hg i hi) ?_
          refine v_aload_n 2 dX6_restore_69 rfl rfl ?_
          refine v_iconst (nI 0) dX6_restore_70 (by decide +kernel) ?_
          refine m_puti (k := 5) (ty := .int) hM rfl inX6_restore_X6 (by decide) (by decide +kernel) rfl rfl (by decide +kernel) ⟨rfl, rfl⟩ dX6_restore_71 ?_
          generalize hg1 : upd (upd f0 0 (nI 0)) 5 (nI 0) = g1
          refine v_aload_n 2 dX6_restore_74 rfl rfl ?_
          refine u_getr (k := 1) (C := RX6) (T := TX6) (NF := 13) hM.n hM.s rfl rfl inX6_restore_X6 (by decide) (by decide +kernel) rfl dX6_restore_75 ?_
          refine v_iconst (nI 0) dX6_restore_78 (by decide +kernel) ?_
          refine m_ld1 0 hM (rfl) (by omega) dX6_restore_79 ?_
          refine v_iret rfl dX6_restore_80 ⟨congrArg (fun z => some (Value.int z)) ?_, congrArg (φ shp) ?_⟩
          · rfl
          · subst hg1; rfl
        · skip
          refine v_aload_n 2 dX6_restore_45 rfl rfl ?_
          refine u_getr (k := 1) (C := RX6) (T := TX6) (NF := 13) hM.n hM.s rfl rfl inX6_restore_X6 (by decide) (by decide +kernel) rfl dX6_restore_46 ?_
          refine v_iload_n 0 dX6_restore_49 rfl rfl ?_
          refine v_aload_n 2 dX6_restore_50 rfl rfl ?_
          refine u_getr (k := 6) (C := RX6) (T := TX6) (NF := 13) hM.n hM.s rfl rfl inX6_restore_X6 (by decide) (by decide +kernel) rfl dX6_restore_51 ?_
          refine v_sipush (nI 358) dX6_restore_54 (by decide +kernel) ?_
          refine v_iload_n 1 dX6_restore_57 rfl rfl ?_
          refine v_imulN dX6_restore_58 ?_
          refine v_iload_n 0 dX6_restore_59 rfl rfl ?_
          refine v_iaddN dX6_restore_60 ?_
          refine m_ld4 (358 * y + k) hM (rfl) (by omega) dX6_restore_61 ?_
          refine m_st1 k hM (rfl) (by omega) dX6_restore_62 ?_
          generalize hg2 : upd (cpF f4 f1 (358 * y) 0 k) k (f4 (358 * y + k)) = g2
          refine v_σ (mk7 σ b (upd f0 0 (nI 0)) (cpF f4 f1 (358 * y) 0 (k + 1)) f2 f3 f4 f5 f6) (congrArg (fun z9 => mk7 σ b (upd f0 0 (nI 0)) z9 f2 f3 f4 f5 f6) ((by rw [← cpF_s, Nat.zero_add]; subst hg2; rfl))) ?_
          refine v_iincN 0 [(2, .int (nI (k + 1))), (1, .int (nI y)), (0, .ref (G b))] dX6_restore_63 rfl (by decide) rfl ?_
          refine v_goto 38 dX6_restore_66 rfl ?_
          refine v_loc [0, 1, 2] [(2, .int (nI (k + 1))), (1, .int (nI y)), (0, .ref (G b))] rfl ?_
          exact ih _ (k + 1) (show n - 1 < n by omega) (by omega)
      · skip
        exact absurd rfl h31
    · skip
      exact absurd h20 hz
  · skip
    exact absurd ((Rg_le (n := 1) (by omega) (nI y)).mpr ⟨y, hy, rfl⟩) h7

set_option maxHeartbeats 4000000 in
set_option maxRecDepth 100000 in
/-- servedIn_0 -/
theorem c_X6_servedIn_0 (lu : Launch) (Dg : va_G) (E : Nat → ClassId) (N : Nat) (G : Nat → Nat) (shp : Nat → (Nat → Int32) → va_E) (σ : Nat → Nat → Int32) {b : Nat} (hM : ModS E G shp N b) (f0 f1 f2 f3 f4 f5 f6 : Nat → Int32) {T : Nat} (hI : Inv T f1) (hT : T ≤ 999000) (hpd : f0 3 = nI 0) {p : Nat} (hp : p < 2 ^ 31) (hf : goFl f1 (nI p) = 0)  : CX lu yX6_servedIn wsX6_servedIn { frames := 5, cells := 0, slots := 0, locals := 109 } Dg E N G shp (mk7 σ b f0 f1 f2 f3 f4 f5 f6) [.ref (G b), .int (nI p)] (fun v' τ => v' = some (.int (nI (waitN f1 p))) ∧ ∃ g2, (∀ i, i < 358 * 0 → g2 i = f2 i) ∧ τ = mk7 σ b (upd f0 0 (nI 0)) f1 g2 f3 f4 f5 f6) := by
  refine CX.of (cc := cX6_servedIn) (maxL := 2) (ret := (some .int)) (by decide) rfl (Nat.le_of_ble_eq_true rfl) ?_
  intro p_ e_ s_ m_ args_ below_ meth_ c_
  refine v_eq (pc' := 0) (st' := []) rfl rfl ?_
  refine v_loc [0, 1] [(0, .ref (G b)), (1, .int (nI p))] rfl ?_
  have hk := go_ok hI hp hf
  refine v_aload_n 0 dX6_servedIn_0 rfl rfl ?_
  refine v_aload_n 0 dX6_servedIn_1 rfl rfl ?_
  refine v_iload_n 1 dX6_servedIn_2 rfl rfl ?_
  refine u_callVv [.int (nI p)] [.ref (G b)] 1 (c_X6_goFault lu Dg E N G shp σ hM f0 f1 f2 f3 f4 f5 f6 hI (nI p)) (ci := 6) (C := RX6) (T := TX6) (NF := 13) hM.n hM.s rfl gX6_servedIn_X6_goFault rfl rfl rfl (by decide +kernel) rfl ⟨Nat.le_of_ble_eq_true rfl, Nat.le_of_ble_eq_true rfl⟩ ⟨Nat.le_of_ble_eq_true rfl, Nat.le_of_ble_eq_true rfl⟩ (Nat.le_of_ble_eq_true rfl) rfl dX6_servedIn_3 ?_
  refine v_topi (nI 0) (congrArg nI hf) ?_
  refine u_callVv [.int (nI 0)] [] 1 (c_X6_holds lu Dg E N G shp σ hM f0 f1 f2 f3 f4 f5 f6 0 (by omega)) (ci := 6) (C := RX6) (T := TX6) (NF := 13) hM.n hM.s rfl gX6_servedIn_X6_holds rfl rfl rfl (by decide +kernel) rfl ⟨Nat.le_of_ble_eq_true rfl, Nat.le_of_ble_eq_true rfl⟩ ⟨Nat.le_of_ble_eq_true rfl, Nat.le_of_ble_eq_true rfl⟩ (Nat.le_of_ble_eq_true rfl) rfl dX6_servedIn_6 ?_
  refine v_if_eqB 20 dX6_servedIn_9 rfl (fun h9 => ?_) (fun h9 => ?_)
  · skip
    exact absurd rfl h9
  · skip
    refine v_aload_n 0 dX6_servedIn_12 rfl rfl ?_
    refine v_iload_n 1 dX6_servedIn_13 rfl rfl ?_
    refine u_callVx [.int (nI p)] [] 1 (c_X6_turnOf lu Dg E N G shp σ hM (upd f0 0 (nI 0)) f1 f2 f3 f4 f5 f6 (pd := 0) (w0 := waitN f1 p) (p := p) (by rw [upd_ap, if_neg (by omega)]; exact hpd) (by omega) (Nat.lt_of_lt_of_le hk.1 hI.np30) (hI.allT hT p hk.1 hk.2)) (ci := 6) (C := RX6) (T := TX6) (NF := 13) hM.n hM.s rfl gX6_servedIn_X6_turnOf rfl rfl rfl (by decide +kernel) rfl ⟨Nat.le_of_ble_eq_true rfl, Nat.le_of_ble_eq_true rfl⟩ ⟨Nat.le_of_ble_eq_true rfl, Nat.le_of_ble_eq_true rfl⟩ (Nat.le_of_ble_eq_true rfl) rfl dX6_servedIn_14 (fun v9 τ9 hp9 => ?_)
    obtain ⟨rfl, u1, hu1, rfl⟩ := hp9
    refine v_st (st' := [.int (nI (waitN f1 p))]) rfl ?_
    refine v_goto 21 dX6_servedIn_17 rfl ?_
    refine v_iret rfl dX6_servedIn_21 ⟨mk7 σ b (upd f0 0 (nI 0)) f1 u1 f3 f4 f5 f6, rfl, ⟨rfl, u1, fun i hi => by omega, rfl⟩⟩

set_option maxHeartbeats 4000000 in
set_option maxRecDepth 100000 in
/-- gain_0 -/
theorem c_X6_gain_0 (lu : Launch) (Dg : va_G) (E : Nat → ClassId) (N : Nat) (G : Nat → Nat) (shp : Nat → (Nat → Int32) → va_E) (σ : Nat → Nat → Int32) {b : Nat} (hM : ModS E G shp N b) (f0 f1 f2 f3 f4 f5 f6 : Nat → Int32) {T : Nat} (hI : Inv T f1) (hT : T ≤ 999000) (hpd : f0 3 = nI 0) {p q : Nat} (hp : p < 2 ^ 31) (hq : q < 2 ^ 31) (hf : exchFl f1 (nI p) (nI q) = 0)  : CX lu yX6_gain wsX6_gain { frames := 6, cells := 0, slots := 0, locals := 134 } Dg E N G shp (mk7 σ b f0 f1 f2 f3 f4 f5 f6) [.ref (G b), .int (nI p), .int (nI q)] (fun v' τ => v' = some (.int (gainI f1 p q)) ∧ ∃ g2, (∀ i, i < 358 * 0 → g2 i = f2 i) ∧ τ = mk7 σ b (upd f0 0 (nI 0)) f1 g2 f3 f4 f5 f6) := by
  refine CX.of (cc := cX6_gain) (maxL := 3) (ret := (some .int)) (by decide) rfl (Nat.le_of_ble_eq_true rfl) ?_
  intro p_ e_ s_ m_ args_ below_ meth_ c_
  refine v_eq (pc' := 0) (st' := []) rfl rfl ?_
  refine v_loc [0, 1, 2] [(0, .ref (G b)), (1, .int (nI p)), (2, .int (nI q))] rfl ?_
  have hk := exch_ok hI hp hq hf
  refine v_aload_n 0 dX6_gain_0 rfl rfl ?_
  refine v_aload_n 0 dX6_gain_1 rfl rfl ?_
  refine v_iload_n 1 dX6_gain_2 rfl rfl ?_
  refine v_iload_n 2 dX6_gain_3 rfl rfl ?_
  refine u_callVv [.int (nI p), .int (nI q)] [.ref (G b)] 2 (c_X6_exchangeFault lu Dg E N G shp σ hM f0 f1 f2 f3 f4 f5 f6 hI (nI p) (nI q)) (ci := 6) (C := RX6) (T := TX6) (NF := 13) hM.n hM.s rfl gX6_gain_X6_exchangeFault rfl rfl rfl (by decide +kernel) rfl ⟨Nat.le_of_ble_eq_true rfl, Nat.le_of_ble_eq_true rfl⟩ ⟨Nat.le_of_ble_eq_true rfl, Nat.le_of_ble_eq_true rfl⟩ (Nat.le_of_ble_eq_true rfl) rfl dX6_gain_4 ?_
  refine v_topi (nI 0) (congrArg nI hf) ?_
  refine u_callVv [.int (nI 0)] [] 1 (c_X6_holds lu Dg E N G shp σ hM f0 f1 f2 f3 f4 f5 f6 0 (by omega)) (ci := 6) (C := RX6) (T := TX6) (NF := 13) hM.n hM.s rfl gX6_gain_X6_holds rfl rfl rfl (by decide +kernel) rfl ⟨Nat.le_of_ble_eq_true rfl, Nat.le_of_ble_eq_true rfl⟩ ⟨Nat.le_of_ble_eq_true rfl, Nat.le_of_ble_eq_true rfl⟩ (Nat.le_of_ble_eq_true rfl) rfl dX6_gain_7 ?_
  refine v_if_eqB 22 dX6_gain_10 rfl (fun h10 => ?_) (fun h10 => ?_)
  · skip
    exact absurd rfl h10
  · skip
    refine v_aload_n 0 dX6_gain_13 rfl rfl ?_
    refine v_iload_n 1 dX6_gain_14 rfl rfl ?_
    refine v_iload_n 2 dX6_gain_15 rfl rfl ?_
    refine u_callVx [.int (nI p), .int (nI q)] [] 2 (c_X6_gained lu Dg E N G shp σ hM (upd f0 0 (nI 0)) f1 f2 f3 f4 f5 f6 hI (pd := 0) (p := p) (q := q) (by rw [upd_ap, if_neg (by omega)]; exact hpd) (by omega) hk.1 hk.2.1 hk.2.2 (hI.allT hT p hk.1 hk.2.2.1) (hI.exT hT hk.1 hk.2.1 hk.2.2)) (ci := 6) (C := RX6) (T := TX6) (NF := 13) hM.n hM.s rfl gX6_gain_X6_gained rfl rfl rfl (by decide +kernel) rfl ⟨Nat.le_of_ble_eq_true rfl, Nat.le_of_ble_eq_true rfl⟩ ⟨Nat.le_of_ble_eq_true rfl, Nat.le_of_ble_eq_true rfl⟩ (Nat.le_of_ble_eq_true rfl) rfl dX6_gain_16 (fun v9 τ9 hp9 => ?_)
    obtain ⟨rfl, u1, hu1, rfl⟩ := hp9
    refine v_st (st' := [.int (gainI f1 p q)]) rfl ?_
    refine v_goto 23 dX6_gain_19 rfl ?_
    refine v_iret rfl dX6_gain_23 ⟨mk7 σ b (upd f0 0 (nI 0)) f1 u1 f3 f4 f5 f6, rfl, ⟨rfl, u1, fun i hi => by omega, rfl⟩⟩

set_option maxHeartbeats 4000000 in
set_option maxRecDepth 100000 in
/-- willPay_1 -/
theorem c_X6_willPay_1 (lu : Launch) (Dg : va_G) (E : Nat → ClassId) (N : Nat) (G : Nat → Nat) (shp : Nat → (Nat → Int32) → va_E) (σ : Nat → Nat → Int32) {b : Nat} (hM : ModS E G shp N b) (f0 f1 f2 f3 f4 f5 f6 : Nat → Int32)  (x : Int32) (hx : ¬ (nI 1 ≤ x ∧ x ≤ nI 999))  : CS lu yX6_willPay wsX6_willPay { frames := 5, cells := 0, slots := 0, locals := 109 } Dg E N G shp (mk7 σ b f0 f1 f2 f3 f4 f5 f6) [.ref (G b), .int x] (some (.int (nI 0))) (mk7 σ b (upd f0 0 (nI 1)) f1 f2 f3 f4 f5 f6) := by
  refine CS.of (cc := cX6_willPay) (maxL := 5) (ret := (some .int)) (by decide) rfl (Nat.le_of_ble_eq_true rfl) ?_
  intro p_ e_ s_ m_ args_ below_ meth_ c_
  refine v_eq (pc' := 0) (st' := []) rfl rfl ?_
  refine v_loc [0, 1] [(0, .ref (G b)), (1, .int x)] rfl ?_
  refine v_aload_n 0 dX6_willPay_0 rfl rfl ?_
  refine v_iload_n 1 dX6_willPay_1 rfl rfl ?_
  refine v_iconst (nI 1) dX6_willPay_2 (by decide +kernel) ?_
  refine v_sipush (nI 999) dX6_willPay_3 (by decide +kernel) ?_
  refine u_callSv [.int x, .int (nI 1), .int (nI 999)] [.ref (G b)] 3 (c_X6_in lu Dg E N G shp (mk7 σ b f0 f1 f2 f3 f4 f5 f6) (x) (nI 1) (nI 999)) gX6_willPay_X6_in rfl rfl rfl (by decide +kernel) rfl ⟨Nat.le_of_ble_eq_true rfl, Nat.le_of_ble_eq_true rfl⟩ ⟨Nat.le_of_ble_eq_true rfl, Nat.le_of_ble_eq_true rfl⟩ (Nat.le_of_ble_eq_true rfl) rfl dX6_willPay_6 ?_
  refine v_if_eqB 16 dX6_willPay_9 rfl (fun h9 => ?_) (fun h9 => ?_)
  · skip
    refine v_iconst (nI 1) dX6_willPay_16 (by decide +kernel) ?_
    refine u_callVv [.int (nI 1)] [] 1 (c_X6_holds lu Dg E N G shp σ hM f0 f1 f2 f3 f4 f5 f6 1 (by omega)) (ci := 6) (C := RX6) (T := TX6) (NF := 13) hM.n hM.s rfl gX6_willPay_X6_holds rfl rfl rfl (by decide +kernel) rfl ⟨Nat.le_of_ble_eq_true rfl, Nat.le_of_ble_eq_true rfl⟩ ⟨Nat.le_of_ble_eq_true rfl, Nat.le_of_ble_eq_true rfl⟩ (Nat.le_of_ble_eq_true rfl) rfl dX6_willPay_17 ?_
    refine v_if_neB 25 dX6_willPay_20 rfl (fun h20 => ?_) (fun h20 => ?_)
    · skip
      exact absurd h20 (by decide)
    · skip
      refine v_iconst (nI 0) dX6_willPay_23 (by decide +kernel) ?_
      refine v_iret rfl dX6_willPay_24 ⟨congrArg (fun z => some (Value.int z)) ?_, congrArg (φ shp) ?_⟩
      · rfl
      · rfl
  · skip
    exact absurd h9 hx

set_option maxRecDepth 100000 in
theorem inX6_willPay_X6 : ∀ w ∈ wsX60, w ∈ wsX6_willPay := by decide +kernel
set_option maxHeartbeats 4000000 in
set_option maxRecDepth 100000 in
/-- willPay_0 -/
theorem c_X6_willPay_0 (lu : Launch) (Dg : va_G) (E : Nat → ClassId) (N : Nat) (G : Nat → Nat) (shp : Nat → (Nat → Int32) → va_E) (σ : Nat → Nat → Int32) {b : Nat} (hM : ModS E G shp N b) (f0 f1 f2 f3 f4 f5 f6 : Nat → Int32) {T : Nat} (hI : Inv T f1) (hT : T ≤ 999000) (hpd : f0 3 = nI 0) {k : Nat} (h1 : 1 ≤ k) (h60 : k ≤ 999)  : CX lu yX6_willPay wsX6_willPay { frames := 5, cells := 0, slots := 0, locals := 109 } Dg E N G shp (mk7 σ b f0 f1 f2 f3 f4 f5 f6) [.ref (G b), .int (nI k)] (fun v' τ => v' = some (.int (goByS f1 k 5 - f1 5)) ∧ ∃ g2, (∀ i, i < 358 * 0 → g2 i = f2 i) ∧ τ = mk7 σ b (upd f0 0 (nI 0)) f1 g2 f3 f4 f5 f6) := by
  refine CX.of (cc := cX6_willPay) (maxL := 5) (ret := (some .int)) (by decide) rfl (Nat.le_of_ble_eq_true rfl) ?_
  intro p_ e_ s_ m_ args_ below_ meth_ c_
  refine v_eq (pc' := 0) (st' := []) rfl rfl ?_
  refine v_loc [0, 1] [(0, .ref (G b)), (1, .int (nI k))] rfl ?_
  have hu : upd (upd (upd f0 0 (nI 0)) 3 (nI (0 + 1))) 3 (nI 0) = upd f0 0 (nI 0) := upd_self (by rw [upd_ap, if_neg (by omega)]; exact hpd)
  refine v_aload_n 0 dX6_willPay_0 rfl rfl ?_
  refine v_iload_n 1 dX6_willPay_1 rfl rfl ?_
  refine v_iconst (nI 1) dX6_willPay_2 (by decide +kernel) ?_
  refine v_sipush (nI 999) dX6_willPay_3 (by decide +kernel) ?_
  refine u_callSv [.int (nI k), .int (nI 1), .int (nI 999)] [.ref (G b)] 3 (c_X6_in lu Dg E N G shp (mk7 σ b f0 f1 f2 f3 f4 f5 f6) (nI k) (nI 1) (nI 999)) gX6_willPay_X6_in rfl rfl rfl (by decide +kernel) rfl ⟨Nat.le_of_ble_eq_true rfl, Nat.le_of_ble_eq_true rfl⟩ ⟨Nat.le_of_ble_eq_true rfl, Nat.le_of_ble_eq_true rfl⟩ (Nat.le_of_ble_eq_true rfl) rfl dX6_willPay_6 ?_
  refine v_if_eqB 16 dX6_willPay_9 rfl (fun h9 => ?_) (fun h9 => ?_)
  · skip
    exact absurd ⟨(nI_leI (by omega) (by omega)).mpr (by omega), (nI_leI (by omega) (by omega)).mpr (by omega)⟩ h9
  · skip
    refine v_iconst (nI 0) dX6_willPay_12 (by decide +kernel) ?_
    refine v_goto 17 dX6_willPay_13 rfl ?_
    refine u_callVv [.int (nI 0)] [] 1 (c_X6_holds lu Dg E N G shp σ hM f0 f1 f2 f3 f4 f5 f6 0 (by omega)) (ci := 6) (C := RX6) (T := TX6) (NF := 13) hM.n hM.s rfl gX6_willPay_X6_holds rfl rfl rfl (by decide +kernel) rfl ⟨Nat.le_of_ble_eq_true rfl, Nat.le_of_ble_eq_true rfl⟩ ⟨Nat.le_of_ble_eq_true rfl, Nat.le_of_ble_eq_true rfl⟩ (Nat.le_of_ble_eq_true rfl) rfl dX6_willPay_17 ?_
    refine v_if_neB 25 dX6_willPay_20 rfl (fun h20 => ?_) (fun h20 => ?_)
    · skip
      refine v_aload_n 0 dX6_willPay_25 rfl rfl ?_
      refine u_callVn [] [] 0 (c_X6_push lu Dg E N G shp σ hM (upd f0 0 (nI 0)) f1 f2 f3 f4 f5 f6 (pd := 0) (by rw [upd_ap, if_neg (by omega)]; exact hpd) (by omega)) (ci := 6) (C := RX6) (T := TX6) (NF := 13) hM.n hM.s rfl gX6_willPay_X6_push rfl rfl rfl (by decide +kernel) rfl ⟨Nat.le_of_ble_eq_true rfl, Nat.le_of_ble_eq_true rfl⟩ ⟨Nat.le_of_ble_eq_true rfl, Nat.le_of_ble_eq_true rfl⟩ (Nat.le_of_ble_eq_true rfl) rfl dX6_willPay_26 ?_
      refine v_aload_n 0 dX6_willPay_29 rfl rfl ?_
      refine u_getr (k := 1) (C := RX6) (T := TX6) (NF := 13) hM.n hM.s rfl rfl inX6_willPay_X6 (by decide) (by decide +kernel) rfl dX6_willPay_30 ?_
      refine v_iconst (nI 5) dX6_willPay_33 (by decide +kernel) ?_
      refine m_ld1 5 hM (rfl) (by omega) dX6_willPay_34 ?_
      refine v_istore_n [(2, .int (f1 5)), (0, .ref (G b)), (1, .int (nI k))] dX6_willPay_35 rfl (by decide) rfl ?_
      refine v_aload_n 1 dX6_willPay_36 rfl rfl ?_
      refine v_iload_n 2 dX6_willPay_37 rfl rfl ?_
      refine u_callVv [.int (nI k)] [] 1 (c_X6_goBy lu Dg E N G shp σ hM (upd (upd f0 0 (nI 0)) 3 (nI (0 + 1))) f1 (cpF f1 f2 0 (358 * (0)) 358) f3 f4 f5 f6 k (by omega) (fun j hj => ⟨_, hI.goBy (n := j) (by omega)⟩)) (ci := 6) (C := RX6) (T := TX6) (NF := 13) hM.n hM.s rfl gX6_willPay_X6_goBy rfl rfl rfl (by decide +kernel) rfl ⟨Nat.le_of_ble_eq_true rfl, Nat.le_of_ble_eq_true rfl⟩ ⟨Nat.le_of_ble_eq_true rfl, Nat.le_of_ble_eq_true rfl⟩ (Nat.le_of_ble_eq_true rfl) rfl dX6_willPay_38 ?_
      refine v_istore_n [(3, .int (nI (goByN f1 k))), (2, .int (f1 5)), (0, .ref (G b)), (1, .int (nI k))] dX6_willPay_41 rfl (by decide) rfl ?_
      refine v_aload_n 2 dX6_willPay_42 rfl rfl ?_
      refine u_getr (k := 1) (C := RX6) (T := TX6) (NF := 13) hM.n hM.s rfl rfl inX6_willPay_X6 (by decide) (by decide +kernel) rfl dX6_willPay_43 ?_
      refine v_iconst (nI 5) dX6_willPay_46 (by decide +kernel) ?_
      refine m_ld1 5 hM (rfl) (by omega) dX6_willPay_47 ?_
      refine v_iload_n 1 dX6_willPay_48 rfl rfl ?_
      refine v_isub dX6_willPay_49 ?_
      refine v_istore [(4, .int (((goByS f1 k) 5) - (f1 5))), (3, .int (nI (goByN f1 k))), (2, .int (f1 5)), (0, .ref (G b)), (1, .int (nI k))] dX6_willPay_50 (by decide) rfl ?_
      refine v_aload_n 3 dX6_willPay_52 rfl rfl ?_
      refine u_callVn [] [] 0 ((c_X6_pop lu Dg E N G shp σ hM (upd (upd f0 0 (nI 0)) 3 (nI (0 + 1))) (goByS f1 k) (cpF f1 f2 0 (358 * (0)) 358) f3 f4 f5 f6 (pd := 0) (by rw [upd_ap, if_pos rfl]) (by omega) f1 (fun i hi => by rw [cpF_in _ _ (by omega) (by omega)]; congr 1; omega)).to rfl (congrArg (fun z9 => mk7 σ b z9 f1 (cpF f1 f2 0 (358 * (0)) 358) f3 f4 f5 f6) hu)) (ci := 6) (C := RX6) (T := TX6) (NF := 13) hM.n hM.s rfl gX6_willPay_X6_pop rfl rfl rfl (by decide +kernel) rfl ⟨Nat.le_of_ble_eq_true rfl, Nat.le_of_ble_eq_true rfl⟩ ⟨Nat.le_of_ble_eq_true rfl, Nat.le_of_ble_eq_true rfl⟩ (Nat.le_of_ble_eq_true rfl) rfl dX6_willPay_53 ?_
      refine v_iload 0 dX6_willPay_56 rfl ?_
      refine v_iret rfl dX6_willPay_58 ⟨mk7 σ b (upd f0 0 (nI 0)) f1 (cpF f1 f2 0 (358 * (0)) 358) f3 f4 f5 f6, rfl, ⟨rfl, cpF f1 f2 0 (358 * (0)) 358, fun i hi => by omega, rfl⟩⟩
    · skip
      exact absurd rfl h20

set_option maxHeartbeats 4000000 in
set_option maxRecDepth 100000 in
/-- partner_1 -/
theorem c_X6_partner_1 (lu : Launch) (Dg : va_G) (E : Nat → ClassId) (N : Nat) (G : Nat → Nat) (shp : Nat → (Nat → Int32) → va_E) (σ : Nat → Nat → Int32) {b : Nat} (hM : ModS E G shp N b) (f0 f1 f2 f3 f4 f5 f6 : Nat → Int32) {T : Nat} (hI : Inv T f1) (x : Int32) (hx : ¬ Rg (tn (f1 2)) x)  : CS lu yX6_partner wsX6_partner { frames := 6, cells := 0, slots := 0, locals := 134 } Dg E N G shp (mk7 σ b f0 f1 f2 f3 f4 f5 f6) [.ref (G b), .int x] (some (.int (nI 0))) (mk7 σ b (upd f0 0 (nI 1)) f1 f2 f3 f4 f5 f6) := by
  refine CS.of (cc := cX6_partner) (maxL := 7) (ret := (some .int)) (by decide) rfl (Nat.le_of_ble_eq_true rfl) ?_
  intro p_ e_ s_ m_ args_ below_ meth_ c_
  refine v_eq (pc' := 0) (st' := []) rfl rfl ?_
  refine v_loc [0, 1] [(0, .ref (G b)), (1, .int x)] rfl ?_
  refine v_aload_n 0 dX6_partner_0 rfl rfl ?_
  refine v_aload_n 0 dX6_partner_1 rfl rfl ?_
  refine v_iload_n 1 dX6_partner_2 rfl rfl ?_
  refine u_callVv [.int x] [.ref (G b)] 1 (c_X6_isPerson lu Dg E N G shp σ hM f0 f1 f2 f3 f4 f5 f6 hI.np (by have := hI.np30; omega) (x)) (ci := 6) (C := RX6) (T := TX6) (NF := 13) hM.n hM.s rfl gX6_partner_X6_isPerson rfl rfl rfl (by decide +kernel) rfl ⟨Nat.le_of_ble_eq_true rfl, Nat.le_of_ble_eq_true rfl⟩ ⟨Nat.le_of_ble_eq_true rfl, Nat.le_of_ble_eq_true rfl⟩ (Nat.le_of_ble_eq_true rfl) rfl dX6_partner_3 ?_
  refine v_if_eqB 13 dX6_partner_6 rfl (fun h6 => ?_) (fun h6 => ?_)
  · skip
    refine v_iconst (nI 1) dX6_partner_13 (by decide +kernel) ?_
    refine u_callVv [.int (nI 1)] [] 1 (c_X6_holds lu Dg E N G shp σ hM f0 f1 f2 f3 f4 f5 f6 1 (by omega)) (ci := 6) (C := RX6) (T := TX6) (NF := 13) hM.n hM.s rfl gX6_partner_X6_holds rfl rfl rfl (by decide +kernel) rfl ⟨Nat.le_of_ble_eq_true rfl, Nat.le_of_ble_eq_true rfl⟩ ⟨Nat.le_of_ble_eq_true rfl, Nat.le_of_ble_eq_true rfl⟩ (Nat.le_of_ble_eq_true rfl) rfl dX6_partner_14 ?_
    refine v_if_neB 22 dX6_partner_17 rfl (fun h17 => ?_) (fun h17 => ?_)
    · skip
      exact absurd h17 (by decide)
    · skip
      refine v_iconst (nI 0) dX6_partner_20 (by decide +kernel) ?_
      refine v_iret rfl dX6_partner_21 ⟨congrArg (fun z => some (Value.int z)) ?_, congrArg (φ shp) ?_⟩
      · rfl
      · rfl
  · skip
    exact absurd h6 hx

set_option maxRecDepth 100000 in
theorem inX6_partner_X6 : ∀ w ∈ wsX60, w ∈ wsX6_partner := by decide +kernel
set_option maxHeartbeats 4000000 in
set_option maxRecDepth 100000 in
/-- partner_0 -/
theorem c_X6_partner_0 (lu : Launch) (Dg : va_G) (E : Nat → ClassId) (N : Nat) (G : Nat → Nat) (shp : Nat → (Nat → Int32) → va_E) (σ : Nat → Nat → Int32) {b : Nat} (hM : ModS E G shp N b) (f0 f1 f2 f3 f4 f5 f6 : Nat → Int32) {T : Nat} (hI : Inv T f1) (hT : T ≤ 999000) (hpd : f0 3 = nI 0) {p : Nat} (hp : p < tn (f1 2))  : CX lu yX6_partner wsX6_partner { frames := 6, cells := 0, slots := 0, locals := 134 } Dg E N G shp (mk7 σ b f0 f1 f2 f3 f4 f5 f6) [.ref (G b), .int (nI p)] (fun v' τ => v' = some (.int ((partB f1 p (tn (f1 2))).1)) ∧ ∃ g2, (∀ i, i < 358 * 0 → g2 i = f2 i) ∧ τ = mk7 σ b (upd f0 0 (nI 0)) f1 g2 f3 f4 f5 f6) := by
  refine CX.of (cc := cX6_partner) (maxL := 7) (ret := (some .int)) (by decide) rfl (Nat.le_of_ble_eq_true rfl) ?_
  intro p_ e_ s_ m_ args_ below_ meth_ c_
  refine v_eq (pc' := 0) (st' := []) rfl rfl ?_
  refine v_loc [0, 1] [(0, .ref (G b)), (1, .int (nI p))] rfl ?_
  have hnp30 := hI.np30
  refine v_aload_n 0 dX6_partner_0 rfl rfl ?_
  refine v_aload_n 0 dX6_partner_1 rfl rfl ?_
  refine v_iload_n 1 dX6_partner_2 rfl rfl ?_
  refine u_callVv [.int (nI p)] [.ref (G b)] 1 (c_X6_isPerson lu Dg E N G shp σ hM f0 f1 f2 f3 f4 f5 f6 hI.np (by have := hI.np30; omega) (nI p)) (ci := 6) (C := RX6) (T := TX6) (NF := 13) hM.n hM.s rfl gX6_partner_X6_isPerson rfl rfl rfl (by decide +kernel) rfl ⟨Nat.le_of_ble_eq_true rfl, Nat.le_of_ble_eq_true rfl⟩ ⟨Nat.le_of_ble_eq_true rfl, Nat.le_of_ble_eq_true rfl⟩ (Nat.le_of_ble_eq_true rfl) rfl dX6_partner_3 ?_
  refine v_if_eqB 13 dX6_partner_6 rfl (fun h6 => ?_) (fun h6 => ?_)
  · skip
    exact absurd ⟨p, hp, rfl⟩ h6
  · skip
    refine v_iconst (nI 0) dX6_partner_9 (by decide +kernel) ?_
    refine v_goto 14 dX6_partner_10 rfl ?_
    refine u_callVv [.int (nI 0)] [] 1 (c_X6_holds lu Dg E N G shp σ hM f0 f1 f2 f3 f4 f5 f6 0 (by omega)) (ci := 6) (C := RX6) (T := TX6) (NF := 13) hM.n hM.s rfl gX6_partner_X6_holds rfl rfl rfl (by decide +kernel) rfl ⟨Nat.le_of_ble_eq_true rfl, Nat.le_of_ble_eq_true rfl⟩ ⟨Nat.le_of_ble_eq_true rfl, Nat.le_of_ble_eq_true rfl⟩ (Nat.le_of_ble_eq_true rfl) rfl dX6_partner_14 ?_
    refine v_if_neB 22 dX6_partner_17 rfl (fun h17 => ?_) (fun h17 => ?_)
    · skip
      refine v_iconst ((-1)) dX6_partner_22 (by decide +kernel) ?_
      refine v_istore_n [(2, .int ((-1))), (0, .ref (G b)), (1, .int (nI p))] dX6_partner_23 rfl (by decide) rfl ?_
      refine v_iconst (nI 0) dX6_partner_24 (by decide +kernel) ?_
      refine v_istore_n [(3, .int (nI 0)), (2, .int ((-1))), (0, .ref (G b)), (1, .int (nI p))] dX6_partner_25 rfl (by decide) rfl ?_
      refine v_iconst (nI 0) dX6_partner_26 (by decide +kernel) ?_
      refine v_istore [(4, .int (nI 0)), (3, .int (nI 0)), (2, .int ((-1))), (0, .ref (G b)), (1, .int (nI p))] dX6_partner_27 (by decide) rfl ?_
      refine v_loc [0, 1, 2, 4, 3] [(4, .int (nI 0)), (3, .int (nI 0)), (2, .int ((-1))), (1, .int (nI p)), (0, .ref (G b))] rfl ?_
      refine u_loop4 (fun n (k : Nat) (fo : Int32) (mo : Int32) (t : Nat → Int32) => k + n = tn (f1 2) ∧ partB f1 p k = (fo, mo)) (fun (k : Nat) (fo : Int32) (mo : Int32) (t : Nat → Int32) => mk7 σ b (upd f0 0 (nI 0)) f1 t f3 f4 f5 f6) (fun (k : Nat) (fo : Int32) (mo : Int32) (t : Nat → Int32) => [(4, .int (nI k)), (3, .int mo), (2, .int fo), (1, .int (nI p)), (0, .ref (G b))]) (tn (f1 2)) 0 (-1) (nI 0) f2 (⟨by omega, rfl⟩) ?_
      intro n k fo mo t hL ih
      refine v_iload 0 dX6_partner_29 rfl ?_
      refine v_aload_n 4 dX6_partner_31 rfl rfl ?_
      refine u_getr (k := 1) (C := RX6) (T := TX6) (NF := 13) hM.n hM.s rfl rfl inX6_partner_X6 (by decide) (by decide +kernel) rfl dX6_partner_32 ?_
      refine v_iconst (nI 2) dX6_partner_35 (by decide +kernel) ?_
      refine m_ld1 2 hM (rfl) (by omega) dX6_partner_36 ?_
      refine v_topi (nI (tn (f1 2))) (hI.np) ?_
      refine v_icmp_geN 107 (by omega) (by omega) dX6_partner_37 rfl (fun h37 => ?_) (fun h37 => ?_)
      · skip
        refine v_iload_n 2 dX6_partner_107 rfl rfl ?_
        refine v_iret rfl dX6_partner_108 ⟨mk7 σ b (upd f0 0 (nI 0)) f1 t f3 f4 f5 f6, rfl, ⟨by obtain rfl : k = tn (f1 2) := (by omega); rw [hL.2], t, fun i hi => by omega, rfl⟩⟩
      · skip
        refine v_aload_n 4 dX6_partner_40 rfl rfl ?_
        refine v_iload_n 3 dX6_partner_41 rfl rfl ?_
        refine v_iload 0 dX6_partner_42 rfl ?_
        refine u_callVv [.int (nI p), .int (nI k)] [] 2 (c_X6_exchangeFault lu Dg E N G shp σ hM (upd f0 0 (nI 0)) f1 t f3 f4 f5 f6 hI (nI p) (nI k)) (ci := 6) (C := RX6) (T := TX6) (NF := 13) hM.n hM.s rfl gX6_partner_X6_exchangeFault rfl rfl rfl (by decide +kernel) rfl ⟨Nat.le_of_ble_eq_true rfl, Nat.le_of_ble_eq_true rfl⟩ ⟨Nat.le_of_ble_eq_true rfl, Nat.le_of_ble_eq_true rfl⟩ (Nat.le_of_ble_eq_true rfl) rfl dX6_partner_44 ?_
        refine v_if_neN 101 (by have := exchFl_le f1 (nI p) (nI k); omega) dX6_partner_47 rfl (fun h47 => ?_) (fun h47 => ?_)
        · skip
          refine v_iincN 0 [(4, .int (nI (k + 1))), (3, .int mo), (2, .int fo), (1, .int (nI p)), (0, .ref (G b))] dX6_partner_101 rfl (by decide) rfl ?_
          refine v_goto 29 dX6_partner_104 rfl ?_
          refine v_loc [0, 1, 2, 3, 4] [(4, .int (nI (k + 1))), (3, .int mo), (2, .int fo), (1, .int (nI p)), (0, .ref (G b))] rfl ?_
          exact ih _ (k + 1) fo mo t (show n - 1 < n by omega) (⟨by omega, by rw [partB, hL.2, partStep, ic_f (P := exchFl f1 (nI p) (nI k) = 0) (by omega)]⟩)
        · skip
          have hk := exch_ok hI (by omega) (by omega) h47
          refine v_aload_n 4 dX6_partner_50 rfl rfl ?_
          refine v_iload_n 3 dX6_partner_51 rfl rfl ?_
          refine v_iload 0 dX6_partner_52 rfl ?_
          refine u_callVx [.int (nI p), .int (nI k)] [] 2 (c_X6_gained lu Dg E N G shp σ hM (upd f0 0 (nI 0)) f1 t f3 f4 f5 f6 hI (pd := 0) (p := p) (q := k) (by rw [upd_ap, if_neg (by omega)]; exact hpd) (by omega) hk.1 hk.2.1 hk.2.2 (hI.allT hT p hk.1 hk.2.2.1) (hI.exT hT hk.1 hk.2.1 hk.2.2)) (ci := 6) (C := RX6) (T := TX6) (NF := 13) hM.n hM.s rfl gX6_partner_X6_gained rfl rfl rfl (by decide +kernel) rfl ⟨Nat.le_of_ble_eq_true rfl, Nat.le_of_ble_eq_true rfl⟩ ⟨Nat.le_of_ble_eq_true rfl, Nat.le_of_ble_eq_true rfl⟩ (Nat.le_of_ble_eq_true rfl) rfl dX6_partner_54 (fun v9 τ9 hp9 => ?_)
          obtain ⟨rfl, u1, hu1, rfl⟩ := hp9
          refine v_st (st' := [.int (gainI f1 p k)]) rfl ?_
          refine v_istore [(5, .int (gainI f1 p k)), (4, .int (nI k)), (3, .int mo), (2, .int fo), (1, .int (nI p)), (0, .ref (G b))] dX6_partner_57 (by decide) rfl ?_
          refine v_iload_n 3 dX6_partner_59 rfl rfl ?_
          refine v_iconst ((-1)) dX6_partner_60 (by decide +kernel) ?_
          refine v_icmp_eq 70 dX6_partner_61 rfl (fun h61 => ?_) (fun h61 => ?_)
          · skip
            refine v_iconst (nI 1) dX6_partner_70 (by decide +kernel) ?_
            refine v_goto 75 dX6_partner_71 rfl ?_
            refine v_istore [(6, .int (nI 1)), (5, .int (gainI f1 p k)), (4, .int (nI k)), (3, .int mo), (2, .int fo), (1, .int (nI p)), (0, .ref (G b))] dX6_partner_75 (by decide) rfl ?_
            refine v_iload 0 dX6_partner_77 rfl ?_
            refine v_if_eqN 87 (by omega) dX6_partner_79 rfl (fun h79 => ?_) (fun h79 => ?_)
            · skip
              omega
            · skip
              refine v_iload 2 dX6_partner_82 rfl ?_
              refine v_goto 88 dX6_partner_84 rfl ?_
              refine v_istore_n [(2, .int (nI k)), (6, .int (nI 1)), (5, .int (gainI f1 p k)), (4, .int (nI k)), (3, .int mo), (1, .int (nI p)), (0, .ref (G b))] dX6_partner_88 rfl (by decide) rfl ?_
              refine v_iload 1 dX6_partner_89 rfl ?_
              refine v_if_eqN 99 (by omega) dX6_partner_91 rfl (fun h91 => ?_) (fun h91 => ?_)
              · skip
                omega
              · skip
                refine v_iload 2 dX6_partner_94 rfl ?_
                refine v_goto 100 dX6_partner_96 rfl ?_
                refine v_istore_n [(3, .int (gainI f1 p k)), (2, .int (nI k)), (6, .int (nI 1)), (5, .int (gainI f1 p k)), (4, .int (nI k)), (1, .int (nI p)), (0, .ref (G b))] dX6_partner_100 rfl (by decide) rfl ?_
                refine v_iincN 4 [(4, .int (nI (k + 1))), (3, .int (gainI f1 p k)), (2, .int (nI k)), (6, .int (nI 1)), (5, .int (gainI f1 p k)), (1, .int (nI p)), (0, .ref (G b))] dX6_partner_101 rfl (by decide) rfl ?_
                refine v_goto 29 dX6_partner_104 rfl ?_
                refine v_loc [0, 1, 2, 5, 6] [(4, .int (nI (k + 1))), (3, .int (gainI f1 p k)), (2, .int (nI k)), (1, .int (nI p)), (0, .ref (G b))] rfl ?_
                exact ih _ (k + 1) (nI k) (gainI f1 p k) u1 (show n - 1 < n by omega) (⟨by omega, by rw [partB, hL.2, partStep, ic_t (P := exchFl f1 (nI p) (nI k) = 0) h47, ic_t (by first | exact Or.inl h61 | exact Or.inr (Int32.not_le.mp h67))]⟩)
          · skip
            refine v_iload 0 dX6_partner_64 rfl ?_
            refine v_iload_n 2 dX6_partner_66 rfl rfl ?_
            refine v_icmp_le 74 dX6_partner_67 rfl (fun h67 => ?_) (fun h67 => ?_)
            · skip
              refine v_iconst (nI 0) dX6_partner_74 (by decide +kernel) ?_
              refine v_istore [(6, .int (nI 0)), (5, .int (gainI f1 p k)), (4, .int (nI k)), (3, .int mo), (2, .int fo), (1, .int (nI p)), (0, .ref (G b))] dX6_partner_75 (by decide) rfl ?_
              refine v_iload 0 dX6_partner_77 rfl ?_
              refine v_if_eqN 87 (by omega) dX6_partner_79 rfl (fun h79 => ?_) (fun h79 => ?_)
              · skip
                refine v_iload_n 4 dX6_partner_87 rfl rfl ?_
                refine v_istore_n [(2, .int fo), (6, .int (nI 0)), (5, .int (gainI f1 p k)), (4, .int (nI k)), (3, .int mo), (1, .int (nI p)), (0, .ref (G b))] dX6_partner_88 rfl (by decide) rfl ?_
                refine v_iload 1 dX6_partner_89 rfl ?_
                refine v_if_eqN 99 (by omega) dX6_partner_91 rfl (fun h91 => ?_) (fun h91 => ?_)
                · skip
                  refine v_iload_n 4 dX6_partner_99 rfl rfl ?_
                  refine v_istore_n [(3, .int mo), (2, .int fo), (6, .int (nI 0)), (5, .int (gainI f1 p k)), (4, .int (nI k)), (1, .int (nI p)), (0, .ref (G b))] dX6_partner_100 rfl (by decide) rfl ?_
                  refine v_iincN 4 [(4, .int (nI (k + 1))), (3, .int mo), (2, .int fo), (6, .int (nI 0)), (5, .int (gainI f1 p k)), (1, .int (nI p)), (0, .ref (G b))] dX6_partner_101 rfl (by decide) rfl ?_
                  refine v_goto 29 dX6_partner_104 rfl ?_
                  refine v_loc [0, 1, 2, 5, 6] [(4, .int (nI (k + 1))), (3, .int mo), (2, .int fo), (1, .int (nI p)), (0, .ref (G b))] rfl ?_
                  exact ih _ (k + 1) fo mo u1 (show n - 1 < n by omega) (⟨by omega, by rw [partB, hL.2, partStep, ic_t (P := exchFl f1 (nI p) (nI k) = 0) h47, ic_f (by rintro (q | q); exact h61 q; exact absurd q (Int32.not_lt.mpr h67))]⟩)
                · skip
                  omega
              · skip
                omega
            · skip
              refine v_iconst (nI 1) dX6_partner_70 (by decide +kernel) ?_
              refine v_goto 75 dX6_partner_71 rfl ?_
              refine v_istore [(6, .int (nI 1)), (5, .int (gainI f1 p k)), (4, .int (nI k)), (3, .int mo), (2, .int fo), (1, .int (nI p)), (0, .ref (G b))] dX6_partner_75 (by decide) rfl ?_
              refine v_iload 0 dX6_partner_77 rfl ?_
              refine v_if_eqN 87 (by omega) dX6_partner_79 rfl (fun h79 => ?_) (fun h79 => ?_)
              · skip
                omega
              · skip
                refine v_iload 2 dX6_partner_82 rfl ?_
                refine v_goto 88 dX6_partner_84 rfl ?_
                refine v_istore_n [(2, .int (nI k)), (6, .int (nI 1)), (5, .int (gainI f1 p k)), (4, .int (nI k)), (3, .int mo), (1, .int (nI p)), (0, .ref (G b))] dX6_partner_88 rfl (by decide) rfl ?_
                refine v_iload 1 dX6_partner_89 rfl ?_
                refine v_if_eqN 99 (by omega) dX6_partner_91 rfl (fun h91 => ?_) (fun h91 => ?_)
                · skip
                  omega
                · skip
                  refine v_iload 2 dX6_partner_94 rfl ?_
                  refine v_goto 100 dX6_partner_96 rfl ?_
                  refine v_istore_n [(3, .int (gainI f1 p k)), (2, .int (nI k)), (6, .int (nI 1)), (5, .int (gainI f1 p k)), (4, .int (nI k)), (1, .int (nI p)), (0, .ref (G b))] dX6_partner_100 rfl (by decide) rfl ?_
                  refine v_iincN 4 [(4, .int (nI (k + 1))), (3, .int (gainI f1 p k)), (2, .int (nI k)), (6, .int (nI 1)), (5, .int (gainI f1 p k)), (1, .int (nI p)), (0, .ref (G b))] dX6_partner_101 rfl (by decide) rfl ?_
                  refine v_goto 29 dX6_partner_104 rfl ?_
                  refine v_loc [0, 1, 2, 5, 6] [(4, .int (nI (k + 1))), (3, .int (gainI f1 p k)), (2, .int (nI k)), (1, .int (nI p)), (0, .ref (G b))] rfl ?_
                  exact ih _ (k + 1) (nI k) (gainI f1 p k) u1 (show n - 1 < n by omega) (⟨by omega, by rw [partB, hL.2, partStep, ic_t (P := exchFl f1 (nI p) (nI k) = 0) h47, ic_t (by first | exact Or.inl h61 | exact Or.inr (Int32.not_le.mp h67))]⟩)
    · skip
      exact absurd rfl h17

set_option maxRecDepth 100000 in
theorem inX6_bestLine_X6 : ∀ w ∈ wsX60, w ∈ wsX6_bestLine := by decide +kernel
set_option maxHeartbeats 4000000 in
set_option maxRecDepth 100000 in
/-- bestLine -/
theorem c_X6_bestLine (lu : Launch) (Dg : va_G) (E : Nat → ClassId) (N : Nat) (G : Nat → Nat) (shp : Nat → (Nat → Int32) → va_E) (σ : Nat → Nat → Int32) {b : Nat} (hM : ModS E G shp N b) (f0 f1 f2 f3 f4 f5 f6 : Nat → Int32) {T : Nat} (hI : Inv T f1) (hT : T ≤ 999000) (hpd : f0 3 = nI 0)  : CX lu yX6_bestLine wsX6_bestLine { frames := 5, cells := 0, slots := 0, locals := 109 } Dg E N G shp (mk7 σ b f0 f1 f2 f3 f4 f5 f6) [.ref (G b)] (fun v' τ => v' = some (.int ((bestB f1 (tn (f1 1))).1)) ∧ ∃ g2, (∀ i, i < 358 * 0 → g2 i = f2 i) ∧ τ = mk7 σ b (upd f0 0 (nI 0)) f1 g2 f3 f4 f5 f6) := by
  refine CX.of (cc := cX6_bestLine) (maxL := 6) (ret := (some .int)) (by decide) rfl (Nat.le_of_ble_eq_true rfl) ?_
  intro p_ e_ s_ m_ args_ below_ meth_ c_
  refine v_eq (pc' := 0) (st' := []) rfl rfl ?_
  refine v_loc [0] [(0, .ref (G b))] rfl ?_
  have hnl3 := hI.nl3
  refine v_aload_n 0 dX6_bestLine_0 rfl rfl ?_
  refine v_iconst (nI 0) dX6_bestLine_1 (by decide +kernel) ?_
  refine m_puti (k := 0) (ty := .int) hM rfl inX6_bestLine_X6 (by decide) (by decide +kernel) rfl rfl (by decide +kernel) ⟨rfl, rfl⟩ dX6_bestLine_2 ?_
  generalize hg1 : upd f0 0 (nI 0) = g1
  subst hg1
  have hu : upd (upd (upd f0 0 (nI 0)) 3 (nI (0 + 1))) 3 (nI 0) = upd f0 0 (nI 0) := upd_self (by rw [upd_ap, if_neg (by omega)]; exact hpd)
  refine v_iconst ((-1)) dX6_bestLine_5 (by decide +kernel) ?_
  refine v_istore_n [(1, .int ((-1))), (0, .ref (G b))] dX6_bestLine_6 rfl (by decide) rfl ?_
  refine v_iconst (nI 0) dX6_bestLine_7 (by decide +kernel) ?_
  refine v_istore_n [(2, .int (nI 0)), (1, .int ((-1))), (0, .ref (G b))] dX6_bestLine_8 rfl (by decide) rfl ?_
  refine v_iconst (nI 0) dX6_bestLine_9 (by decide +kernel) ?_
  refine v_istore_n [(3, .int (nI 0)), (2, .int (nI 0)), (1, .int ((-1))), (0, .ref (G b))] dX6_bestLine_10 rfl (by decide) rfl ?_
  refine v_loc [0, 1, 2, 3] [(3, .int (nI 0)), (2, .int (nI 0)), (1, .int ((-1))), (0, .ref (G b))] rfl ?_
  refine u_loop4 (fun n (k : Nat) (fo : Int32) (mo : Int32) (t : Nat → Int32) => k + n = tn (f1 1) ∧ bestB f1 k = (fo, mo)) (fun (k : Nat) (fo : Int32) (mo : Int32) (t : Nat → Int32) => mk7 σ b (upd f0 0 (nI 0)) f1 t f3 f4 f5 f6) (fun (k : Nat) (fo : Int32) (mo : Int32) (t : Nat → Int32) => [(3, .int (nI k)), (2, .int mo), (1, .int fo), (0, .ref (G b))]) (tn (f1 1)) 0 (-1) (nI 0) f2 (⟨by omega, rfl⟩) ?_
  intro n k fo mo t hL ih
  refine v_iload_n 0 dX6_bestLine_11 rfl rfl ?_
  refine v_aload_n 3 dX6_bestLine_12 rfl rfl ?_
  refine u_getr (k := 1) (C := RX6) (T := TX6) (NF := 13) hM.n hM.s rfl rfl inX6_bestLine_X6 (by decide) (by decide +kernel) rfl dX6_bestLine_13 ?_
  refine v_iconst (nI 1) dX6_bestLine_16 (by decide +kernel) ?_
  refine m_ld1 1 hM (rfl) (by omega) dX6_bestLine_17 ?_
  refine v_topi (nI (tn (f1 1))) (hI.nl) ?_
  refine v_icmp_geN 97 (by omega) (by omega) dX6_bestLine_18 rfl (fun h18 => ?_) (fun h18 => ?_)
  · skip
    refine v_iload_n 2 dX6_bestLine_97 rfl rfl ?_
    refine v_iret rfl dX6_bestLine_98 ⟨mk7 σ b (upd f0 0 (nI 0)) f1 t f3 f4 f5 f6, rfl, ⟨by obtain rfl : k = tn (f1 1) := (by omega); rw [hL.2], t, fun i hi => by omega, rfl⟩⟩
  · skip
    refine v_aload_n 3 dX6_bestLine_21 rfl rfl ?_
    refine v_iload_n 0 dX6_bestLine_22 rfl rfl ?_
    refine v_iconst (nI 0) dX6_bestLine_23 (by decide +kernel) ?_
    refine u_callVv [.int (nI k), .int (nI 0)] [] 2 (c_X6_comeFault lu Dg E N G shp σ hM (upd f0 0 (nI 0)) f1 t f3 f4 f5 f6 hI (nI k) (nI 0)) (ci := 6) (C := RX6) (T := TX6) (NF := 13) hM.n hM.s rfl gX6_bestLine_X6_comeFault rfl rfl rfl (by decide +kernel) rfl ⟨Nat.le_of_ble_eq_true rfl, Nat.le_of_ble_eq_true rfl⟩ ⟨Nat.le_of_ble_eq_true rfl, Nat.le_of_ble_eq_true rfl⟩ (Nat.le_of_ble_eq_true rfl) rfl dX6_bestLine_24 ?_
    refine v_if_neN 91 (by have := comeFl_le f1 (nI k) (nI 0); omega) dX6_bestLine_27 rfl (fun h27 => ?_) (fun h27 => ?_)
    · skip
      refine v_iincN 0 [(3, .int (nI (k + 1))), (2, .int mo), (1, .int fo), (0, .ref (G b))] dX6_bestLine_91 rfl (by decide) rfl ?_
      refine v_goto 11 dX6_bestLine_94 rfl ?_
      refine v_loc [0, 1, 2, 3] [(3, .int (nI (k + 1))), (2, .int mo), (1, .int fo), (0, .ref (G b))] rfl ?_
      exact ih _ (k + 1) fo mo t (show n - 1 < n by omega) (⟨by omega, by rw [bestB, hL.2, bestStep, ic_f (P := comeFl f1 (nI k) (nI 0) = 0) (by omega)]⟩)
    · skip
      have hk := come_ok hI (by omega) h27
      have hl3 := Nat.lt_of_lt_of_le hk.1 hI.nl3
      refine v_aload_n 3 dX6_bestLine_30 rfl rfl ?_
      refine u_callVn [] [] 0 (c_X6_push lu Dg E N G shp σ hM (upd f0 0 (nI 0)) f1 t f3 f4 f5 f6 (pd := 0) (by rw [upd_ap, if_neg (by omega)]; exact hpd) (by omega)) (ci := 6) (C := RX6) (T := TX6) (NF := 13) hM.n hM.s rfl gX6_bestLine_X6_push rfl rfl rfl (by decide +kernel) rfl ⟨Nat.le_of_ble_eq_true rfl, Nat.le_of_ble_eq_true rfl⟩ ⟨Nat.le_of_ble_eq_true rfl, Nat.le_of_ble_eq_true rfl⟩ (Nat.le_of_ble_eq_true rfl) rfl dX6_bestLine_31 ?_
      refine v_aload_n 3 dX6_bestLine_34 rfl rfl ?_
      refine v_aload_n 3 dX6_bestLine_35 rfl rfl ?_
      refine v_iload_n 0 dX6_bestLine_36 rfl rfl ?_
      refine v_iconst (nI 0) dX6_bestLine_37 (by decide +kernel) ?_
      refine u_callVv [.int (nI k), .int (nI 0)] [.ref (G b)] 2 (c_X6_comes lu Dg E N G shp σ hM (upd (upd f0 0 (nI 0)) 3 (nI (0 + 1))) f1 (cpF f1 t 0 (358 * (0)) 358) f3 f4 f5 f6 (p := tn (f1 2)) (l := k) (len := tn (f1 (13 + k))) (k0 := 0) hI.np hk.2.1 hl3 (hI.len hk.1) hk.2.2) (ci := 6) (C := RX6) (T := TX6) (NF := 13) hM.n hM.s rfl gX6_bestLine_X6_comes rfl rfl rfl (by decide +kernel) rfl ⟨Nat.le_of_ble_eq_true rfl, Nat.le_of_ble_eq_true rfl⟩ ⟨Nat.le_of_ble_eq_true rfl, Nat.le_of_ble_eq_true rfl⟩ (Nat.le_of_ble_eq_true rfl) rfl dX6_bestLine_38 ?_
      refine u_callVx [.int (nI (tn (f1 2)))] [] 1 (c_X6_turnOf lu Dg E N G shp σ hM (upd (upd f0 0 (nI 0)) 3 (nI (0 + 1))) (comesS f1 k 0) (cpF f1 t 0 (358 * (0)) 358) f3 f4 f5 f6 (pd := 0 + 1) (w0 := waitN (comesS f1 k 0) (tn (f1 2))) (p := tn (f1 2)) (by rw [upd_ap, if_pos rfl]) (by omega) hk.2.1 (hI.comT hT hk.1 hk.2.1 hk.2.2)) (ci := 6) (C := RX6) (T := TX6) (NF := 13) hM.n hM.s rfl gX6_bestLine_X6_turnOf rfl rfl rfl (by decide +kernel) rfl ⟨Nat.le_of_ble_eq_true rfl, Nat.le_of_ble_eq_true rfl⟩ ⟨Nat.le_of_ble_eq_true rfl, Nat.le_of_ble_eq_true rfl⟩ (Nat.le_of_ble_eq_true rfl) rfl dX6_bestLine_41 (fun v9 τ9 hp9 => ?_)
      obtain ⟨rfl, u1, hu1, rfl⟩ := hp9
      refine v_st (st' := [.int (nI (waitN (comesS f1 k 0) (tn (f1 2))))]) rfl ?_
      refine v_istore [(4, .int (nI (waitN (comesS f1 k 0) (tn (f1 2))))), (3, .int (nI k)), (2, .int mo), (1, .int fo), (0, .ref (G b))] dX6_bestLine_44 (by decide) rfl ?_
      refine v_aload_n 4 dX6_bestLine_46 rfl rfl ?_
      refine u_callVn [] [] 0 ((c_X6_pop lu Dg E N G shp σ hM (upd (upd f0 0 (nI 0)) 3 (nI (0 + 1))) (comesS f1 k 0) u1 f3 f4 f5 f6 (pd := 0) (by rw [upd_ap, if_pos rfl]) (by omega) f1 (fun i hi => by rw [hu1 _ (by omega), cpF_in _ _ (by omega) (by omega)]; congr 1; omega)).to rfl (congrArg (fun z9 => mk7 σ b z9 f1 u1 f3 f4 f5 f6) hu)) (ci := 6) (C := RX6) (T := TX6) (NF := 13) hM.n hM.s rfl gX6_bestLine_X6_pop rfl rfl rfl (by decide +kernel) rfl ⟨Nat.le_of_ble_eq_true rfl, Nat.le_of_ble_eq_true rfl⟩ ⟨Nat.le_of_ble_eq_true rfl, Nat.le_of_ble_eq_true rfl⟩ (Nat.le_of_ble_eq_true rfl) rfl dX6_bestLine_47 ?_
      refine v_iload_n 3 dX6_bestLine_50 rfl rfl ?_
      refine v_iconst ((-1)) dX6_bestLine_51 (by decide +kernel) ?_
      refine v_icmp_eq 61 dX6_bestLine_52 rfl (fun h52 => ?_) (fun h52 => ?_)
      · skip
        refine v_iconst (nI 1) dX6_bestLine_61 (by decide +kernel) ?_
        refine v_goto 66 dX6_bestLine_62 rfl ?_
        refine v_istore [(5, .int (nI 1)), (4, .int (nI (waitN (comesS f1 k 0) (tn (f1 2))))), (3, .int (nI k)), (2, .int mo), (1, .int fo), (0, .ref (G b))] dX6_bestLine_66 (by decide) rfl ?_
        refine v_iload 0 dX6_bestLine_68 rfl ?_
        refine v_if_eqN 77 (by omega) dX6_bestLine_70 rfl (fun h70 => ?_) (fun h70 => ?_)
        · skip
          omega
        · skip
          refine v_iload_n 2 dX6_bestLine_73 rfl rfl ?_
          refine v_goto 78 dX6_bestLine_74 rfl ?_
          refine v_istore_n [(1, .int (nI k)), (5, .int (nI 1)), (4, .int (nI (waitN (comesS f1 k 0) (tn (f1 2))))), (3, .int (nI k)), (2, .int mo), (0, .ref (G b))] dX6_bestLine_78 rfl (by decide) rfl ?_
          refine v_iload 1 dX6_bestLine_79 rfl ?_
          refine v_if_eqN 89 (by omega) dX6_bestLine_81 rfl (fun h81 => ?_) (fun h81 => ?_)
          · skip
            omega
          · skip
            refine v_iload 2 dX6_bestLine_84 rfl ?_
            refine v_goto 90 dX6_bestLine_86 rfl ?_
            refine v_istore_n [(2, .int (nI (waitN (comesS f1 k 0) (tn (f1 2))))), (1, .int (nI k)), (5, .int (nI 1)), (4, .int (nI (waitN (comesS f1 k 0) (tn (f1 2))))), (3, .int (nI k)), (0, .ref (G b))] dX6_bestLine_90 rfl (by decide) rfl ?_
            refine v_iincN 4 [(3, .int (nI (k + 1))), (2, .int (nI (waitN (comesS f1 k 0) (tn (f1 2))))), (1, .int (nI k)), (5, .int (nI 1)), (4, .int (nI (waitN (comesS f1 k 0) (tn (f1 2))))), (0, .ref (G b))] dX6_bestLine_91 rfl (by decide) rfl ?_
            refine v_goto 11 dX6_bestLine_94 rfl ?_
            refine v_loc [0, 1, 2, 5] [(3, .int (nI (k + 1))), (2, .int (nI (waitN (comesS f1 k 0) (tn (f1 2))))), (1, .int (nI k)), (0, .ref (G b))] rfl ?_
            exact ih _ (k + 1) (nI k) (nI (waitN (comesS f1 k 0) (tn (f1 2)))) u1 (show n - 1 < n by omega) (⟨by omega, by rw [bestB, hL.2, bestStep, ic_t (P := comeFl f1 (nI k) (nI 0) = 0) h27, ic_t (by first | exact Or.inl h52 | exact Or.inr (Int32.not_le.mp h58))]⟩)
      · skip
        refine v_iload 0 dX6_bestLine_55 rfl ?_
        refine v_iload_n 2 dX6_bestLine_57 rfl rfl ?_
        refine v_icmp_ge 65 dX6_bestLine_58 rfl (fun h58 => ?_) (fun h58 => ?_)
        · skip
          refine v_iconst (nI 0) dX6_bestLine_65 (by decide +kernel) ?_
          refine v_istore [(5, .int (nI 0)), (4, .int (nI (waitN (comesS f1 k 0) (tn (f1 2))))), (3, .int (nI k)), (2, .int mo), (1, .int fo), (0, .ref (G b))] dX6_bestLine_66 (by decide) rfl ?_
          refine v_iload 0 dX6_bestLine_68 rfl ?_
          refine v_if_eqN 77 (by omega) dX6_bestLine_70 rfl (fun h70 => ?_) (fun h70 => ?_)
          · skip
            refine v_iload_n 4 dX6_bestLine_77 rfl rfl ?_
            refine v_istore_n [(1, .int fo), (5, .int (nI 0)), (4, .int (nI (waitN (comesS f1 k 0) (tn (f1 2))))), (3, .int (nI k)), (2, .int mo), (0, .ref (G b))] dX6_bestLine_78 rfl (by decide) rfl ?_
            refine v_iload 1 dX6_bestLine_79 rfl ?_
            refine v_if_eqN 89 (by omega) dX6_bestLine_81 rfl (fun h81 => ?_) (fun h81 => ?_)
            · skip
              refine v_iload_n 4 dX6_bestLine_89 rfl rfl ?_
              refine v_istore_n [(2, .int mo), (1, .int fo), (5, .int (nI 0)), (4, .int (nI (waitN (comesS f1 k 0) (tn (f1 2))))), (3, .int (nI k)), (0, .ref (G b))] dX6_bestLine_90 rfl (by decide) rfl ?_
              refine v_iincN 4 [(3, .int (nI (k + 1))), (2, .int mo), (1, .int fo), (5, .int (nI 0)), (4, .int (nI (waitN (comesS f1 k 0) (tn (f1 2))))), (0, .ref (G b))] dX6_bestLine_91 rfl (by decide) rfl ?_
              refine v_goto 11 dX6_bestLine_94 rfl ?_
              refine v_loc [0, 1, 2, 5] [(3, .int (nI (k + 1))), (2, .int mo), (1, .int fo), (0, .ref (G b))] rfl ?_
              exact ih _ (k + 1) fo mo u1 (show n - 1 < n by omega) (⟨by omega, by rw [bestB, hL.2, bestStep, ic_t (P := comeFl f1 (nI k) (nI 0) = 0) h27, ic_f (by rintro (q | q); exact h52 q; exact absurd q (Int32.not_lt.mpr h58))]⟩)
            · skip
              omega
          · skip
            omega
        · skip
          refine v_iconst (nI 1) dX6_bestLine_61 (by decide +kernel) ?_
          refine v_goto 66 dX6_bestLine_62 rfl ?_
          refine v_istore [(5, .int (nI 1)), (4, .int (nI (waitN (comesS f1 k 0) (tn (f1 2))))), (3, .int (nI k)), (2, .int mo), (1, .int fo), (0, .ref (G b))] dX6_bestLine_66 (by decide) rfl ?_
          refine v_iload 0 dX6_bestLine_68 rfl ?_
          refine v_if_eqN 77 (by omega) dX6_bestLine_70 rfl (fun h70 => ?_) (fun h70 => ?_)
          · skip
            omega
          · skip
            refine v_iload_n 2 dX6_bestLine_73 rfl rfl ?_
            refine v_goto 78 dX6_bestLine_74 rfl ?_
            refine v_istore_n [(1, .int (nI k)), (5, .int (nI 1)), (4, .int (nI (waitN (comesS f1 k 0) (tn (f1 2))))), (3, .int (nI k)), (2, .int mo), (0, .ref (G b))] dX6_bestLine_78 rfl (by decide) rfl ?_
            refine v_iload 1 dX6_bestLine_79 rfl ?_
            refine v_if_eqN 89 (by omega) dX6_bestLine_81 rfl (fun h81 => ?_) (fun h81 => ?_)
            · skip
              omega
            · skip
              refine v_iload 2 dX6_bestLine_84 rfl ?_
              refine v_goto 90 dX6_bestLine_86 rfl ?_
              refine v_istore_n [(2, .int (nI (waitN (comesS f1 k 0) (tn (f1 2))))), (1, .int (nI k)), (5, .int (nI 1)), (4, .int (nI (waitN (comesS f1 k 0) (tn (f1 2))))), (3, .int (nI k)), (0, .ref (G b))] dX6_bestLine_90 rfl (by decide) rfl ?_
              refine v_iincN 4 [(3, .int (nI (k + 1))), (2, .int (nI (waitN (comesS f1 k 0) (tn (f1 2))))), (1, .int (nI k)), (5, .int (nI 1)), (4, .int (nI (waitN (comesS f1 k 0) (tn (f1 2))))), (0, .ref (G b))] dX6_bestLine_91 rfl (by decide) rfl ?_
              refine v_goto 11 dX6_bestLine_94 rfl ?_
              refine v_loc [0, 1, 2, 5] [(3, .int (nI (k + 1))), (2, .int (nI (waitN (comesS f1 k 0) (tn (f1 2))))), (1, .int (nI k)), (0, .ref (G b))] rfl ?_
              exact ih _ (k + 1) (nI k) (nI (waitN (comesS f1 k 0) (tn (f1 2)))) u1 (show n - 1 < n by omega) (⟨by omega, by rw [bestB, hL.2, bestStep, ic_t (P := comeFl f1 (nI k) (nI 0) = 0) h27, ic_t (by first | exact Or.inl h52 | exact Or.inr (Int32.not_le.mp h58))]⟩)

set_option maxRecDepth 100000 in
theorem inX6_longest_X6 : ∀ w ∈ wsX60, w ∈ wsX6_longest := by decide +kernel
set_option maxHeartbeats 4000000 in
set_option maxRecDepth 100000 in
/-- longest -/
theorem c_X6_longest (lu : Launch) (Dg : va_G) (E : Nat → ClassId) (N : Nat) (G : Nat → Nat) (shp : Nat → (Nat → Int32) → va_E) (σ : Nat → Nat → Int32) {b : Nat} (hM : ModS E G shp N b) (f0 f1 f2 f3 f4 f5 f6 : Nat → Int32) {T : Nat} (hI : Inv T f1) (hT : T ≤ 999000) (hpd : f0 3 = nI 0)  : CX lu yX6_longest wsX6_longest { frames := 5, cells := 0, slots := 0, locals := 109 } Dg E N G shp (mk7 σ b f0 f1 f2 f3 f4 f5 f6) [.ref (G b)] (fun v' τ => v' = some (.int ((longB f1 (tn (f1 2))).1)) ∧ ∃ g2, (∀ i, i < 358 * 0 → g2 i = f2 i) ∧ τ = mk7 σ b (upd f0 0 (nI 0)) f1 g2 f3 f4 f5 f6) := by
  refine CX.of (cc := cX6_longest) (maxL := 5) (ret := (some .int)) (by decide) rfl (Nat.le_of_ble_eq_true rfl) ?_
  intro p_ e_ s_ m_ args_ below_ meth_ c_
  refine v_eq (pc' := 0) (st' := []) rfl rfl ?_
  refine v_loc [0] [(0, .ref (G b))] rfl ?_
  have hnp30 := hI.np30
  refine v_aload_n 0 dX6_longest_0 rfl rfl ?_
  refine v_iconst (nI 0) dX6_longest_1 (by decide +kernel) ?_
  refine m_puti (k := 0) (ty := .int) hM rfl inX6_longest_X6 (by decide) (by decide +kernel) rfl rfl (by decide +kernel) ⟨rfl, rfl⟩ dX6_longest_2 ?_
  generalize hg1 : upd f0 0 (nI 0) = g1
  subst hg1
  refine v_iconst ((-1)) dX6_longest_5 (by decide +kernel) ?_
  refine v_istore_n [(1, .int ((-1))), (0, .ref (G b))] dX6_longest_6 rfl (by decide) rfl ?_
  refine v_iconst ((-1)) dX6_longest_7 (by decide +kernel) ?_
  refine v_istore_n [(2, .int ((-1))), (1, .int ((-1))), (0, .ref (G b))] dX6_longest_8 rfl (by decide) rfl ?_
  refine v_iconst (nI 0) dX6_longest_9 (by decide +kernel) ?_
  refine v_istore_n [(3, .int (nI 0)), (2, .int ((-1))), (1, .int ((-1))), (0, .ref (G b))] dX6_longest_10 rfl (by decide) rfl ?_
  refine v_loc [0, 1, 2, 3] [(3, .int (nI 0)), (2, .int ((-1))), (1, .int ((-1))), (0, .ref (G b))] rfl ?_
  refine u_loop4 (fun n (k : Nat) (fo : Int32) (mo : Int32) (t : Nat → Int32) => k + n = tn (f1 2) ∧ longB f1 k = (fo, mo)) (fun (k : Nat) (fo : Int32) (mo : Int32) (t : Nat → Int32) => mk7 σ b (upd f0 0 (nI 0)) f1 t f3 f4 f5 f6) (fun (k : Nat) (fo : Int32) (mo : Int32) (t : Nat → Int32) => [(3, .int (nI k)), (2, .int mo), (1, .int fo), (0, .ref (G b))]) (tn (f1 2)) 0 (-1) (-1) f2 (⟨by omega, rfl⟩) ?_
  intro n k fo mo t hL ih
  refine v_iload_n 0 dX6_longest_11 rfl rfl ?_
  refine v_aload_n 3 dX6_longest_12 rfl rfl ?_
  refine u_getr (k := 1) (C := RX6) (T := TX6) (NF := 13) hM.n hM.s rfl rfl inX6_longest_X6 (by decide) (by decide +kernel) rfl dX6_longest_13 ?_
  refine v_iconst (nI 2) dX6_longest_16 (by decide +kernel) ?_
  refine m_ld1 2 hM (rfl) (by omega) dX6_longest_17 ?_
  refine v_topi (nI (tn (f1 2))) (hI.np) ?_
  refine v_icmp_geN 78 (by omega) (by omega) dX6_longest_18 rfl (fun h18 => ?_) (fun h18 => ?_)
  · skip
    refine v_iload_n 2 dX6_longest_78 rfl rfl ?_
    refine v_iret rfl dX6_longest_79 ⟨mk7 σ b (upd f0 0 (nI 0)) f1 t f3 f4 f5 f6, rfl, ⟨by obtain rfl : k = tn (f1 2) := (by omega); rw [hL.2], t, fun i hi => by omega, rfl⟩⟩
  · skip
    refine v_aload_n 3 dX6_longest_21 rfl rfl ?_
    refine v_iload_n 0 dX6_longest_22 rfl rfl ?_
    refine u_callVv [.int (nI k)] [] 1 (c_X6_isStanding lu Dg E N G shp σ hM (upd f0 0 (nI 0)) f1 t f3 f4 f5 f6 k (by omega)) (ci := 6) (C := RX6) (T := TX6) (NF := 13) hM.n hM.s rfl gX6_longest_X6_isStanding rfl rfl rfl (by decide +kernel) rfl ⟨Nat.le_of_ble_eq_true rfl, Nat.le_of_ble_eq_true rfl⟩ ⟨Nat.le_of_ble_eq_true rfl, Nat.le_of_ble_eq_true rfl⟩ (Nat.le_of_ble_eq_true rfl) rfl dX6_longest_23 ?_
    refine v_if_eqB 72 dX6_longest_26 rfl (fun h26 => ?_) (fun h26 => ?_)
    · skip
      refine v_iincN 0 [(3, .int (nI (k + 1))), (2, .int mo), (1, .int fo), (0, .ref (G b))] dX6_longest_72 rfl (by decide) rfl ?_
      refine v_goto 11 dX6_longest_75 rfl ?_
      refine v_loc [0, 1, 2, 3] [(3, .int (nI (k + 1))), (2, .int mo), (1, .int fo), (0, .ref (G b))] rfl ?_
      exact ih _ (k + 1) fo mo t (show n - 1 < n by omega) (⟨by omega, by rw [longB, hL.2, longStep, ic_f (P := f1 (58 + 10 * k + 5) = 0) h26]⟩)
    · skip
      refine v_aload_n 3 dX6_longest_29 rfl rfl ?_
      refine u_getr (k := 1) (C := RX6) (T := TX6) (NF := 13) hM.n hM.s rfl rfl inX6_longest_X6 (by decide) (by decide +kernel) rfl dX6_longest_30 ?_
      refine v_iload_n 0 dX6_longest_33 rfl rfl ?_
      refine v_iconst (nI 2) dX6_longest_34 (by decide +kernel) ?_
      refine u_callSv [.int (nI k), .int (nI 2)] [.ref (G (b + 1))] 2 (c_X6_of lu Dg E N G shp (mk7 σ b (upd f0 0 (nI 0)) f1 t f3 f4 f5 f6) k 2) gX6_longest_X6_of rfl rfl rfl (by decide +kernel) rfl ⟨Nat.le_of_ble_eq_true rfl, Nat.le_of_ble_eq_true rfl⟩ ⟨Nat.le_of_ble_eq_true rfl, Nat.le_of_ble_eq_true rfl⟩ (Nat.le_of_ble_eq_true rfl) rfl dX6_longest_35 ?_
      refine m_ld1 (58 + 10 * k + 2) hM (rfl) (by omega) dX6_longest_38 ?_
      refine v_aload_n 3 dX6_longest_39 rfl rfl ?_
      refine v_iload_n 0 dX6_longest_40 rfl rfl ?_
      refine u_callVx [.int (nI k)] [.int (f1 (58 + 10 * k + 2))] 1 (c_X6_turnOf lu Dg E N G shp σ hM (upd f0 0 (nI 0)) f1 t f3 f4 f5 f6 (pd := 0) (w0 := waitN f1 k) (p := k) (by rw [upd_ap, if_neg (by omega)]; exact hpd) (by omega) (by omega) (hI.allT hT k (by omega) h26)) (ci := 6) (C := RX6) (T := TX6) (NF := 13) hM.n hM.s rfl gX6_longest_X6_turnOf rfl rfl rfl (by decide +kernel) rfl ⟨Nat.le_of_ble_eq_true rfl, Nat.le_of_ble_eq_true rfl⟩ ⟨Nat.le_of_ble_eq_true rfl, Nat.le_of_ble_eq_true rfl⟩ (Nat.le_of_ble_eq_true rfl) rfl dX6_longest_41 (fun v9 τ9 hp9 => ?_)
      obtain ⟨rfl, u1, hu1, rfl⟩ := hp9
      refine v_st (st' := [.int (nI (waitN f1 k)), .int (f1 (58 + 10 * k + 2))]) rfl ?_
      refine v_iadd dX6_longest_44 ?_
      refine v_istore [(4, .int ((f1 (58 + 10 * k + 2)) + (nI (waitN f1 k)))), (3, .int (nI k)), (2, .int mo), (1, .int fo), (0, .ref (G b))] dX6_longest_45 (by decide) rfl ?_
      refine v_iload 0 dX6_longest_47 rfl ?_
      refine v_iload_n 2 dX6_longest_49 rfl rfl ?_
      refine v_icmp_le 57 dX6_longest_50 rfl (fun h50 => ?_) (fun h50 => ?_)
      · skip
        refine v_iload_n 3 dX6_longest_57 rfl rfl ?_
        refine v_istore_n [(1, .int fo), (4, .int ((f1 (58 + 10 * k + 2)) + (nI (waitN f1 k)))), (3, .int (nI k)), (2, .int mo), (0, .ref (G b))] dX6_longest_58 rfl (by decide) rfl ?_
        refine v_iload 1 dX6_longest_59 rfl ?_
        refine v_iload_n 3 dX6_longest_61 rfl rfl ?_
        refine v_icmp_le 70 dX6_longest_62 rfl (fun h62 => ?_) (fun h62 => ?_)
        · skip
          refine v_iload_n 3 dX6_longest_70 rfl rfl ?_
          refine v_istore_n [(2, .int mo), (1, .int fo), (4, .int ((f1 (58 + 10 * k + 2)) + (nI (waitN f1 k)))), (3, .int (nI k)), (0, .ref (G b))] dX6_longest_71 rfl (by decide) rfl ?_
          refine v_iincN 3 [(3, .int (nI (k + 1))), (2, .int mo), (1, .int fo), (4, .int ((f1 (58 + 10 * k + 2)) + (nI (waitN f1 k)))), (0, .ref (G b))] dX6_longest_72 rfl (by decide) rfl ?_
          refine v_goto 11 dX6_longest_75 rfl ?_
          refine v_loc [0, 1, 2, 4] [(3, .int (nI (k + 1))), (2, .int mo), (1, .int fo), (0, .ref (G b))] rfl ?_
          exact ih _ (k + 1) fo mo u1 (show n - 1 < n by omega) (⟨by omega, by rw [longB, hL.2, longStep, ic_t (P := f1 (58 + 10 * k + 5) = 0) h26, ic_f (P := mo < f1 (58 + 10 * k + 2) + nI (waitN f1 k)) (Int32.not_lt.mpr h50)]⟩)
        · skip
          exact absurd h50 h62
      · skip
        refine v_iload_n 1 dX6_longest_53 rfl rfl ?_
        refine v_goto 58 dX6_longest_54 rfl ?_
        refine v_istore_n [(1, .int (nI k)), (4, .int ((f1 (58 + 10 * k + 2)) + (nI (waitN f1 k)))), (3, .int (nI k)), (2, .int mo), (0, .ref (G b))] dX6_longest_58 rfl (by decide) rfl ?_
        refine v_iload 1 dX6_longest_59 rfl ?_
        refine v_iload_n 3 dX6_longest_61 rfl rfl ?_
        refine v_icmp_le 70 dX6_longest_62 rfl (fun h62 => ?_) (fun h62 => ?_)
        · skip
          exact absurd h62 h50
        · skip
          refine v_iload 1 dX6_longest_65 rfl ?_
          refine v_goto 71 dX6_longest_67 rfl ?_
          refine v_istore_n [(2, .int ((f1 (58 + 10 * k + 2)) + (nI (waitN f1 k)))), (1, .int (nI k)), (4, .int ((f1 (58 + 10 * k + 2)) + (nI (waitN f1 k)))), (3, .int (nI k)), (0, .ref (G b))] dX6_longest_71 rfl (by decide) rfl ?_
          refine v_iincN 3 [(3, .int (nI (k + 1))), (2, .int ((f1 (58 + 10 * k + 2)) + (nI (waitN f1 k)))), (1, .int (nI k)), (4, .int ((f1 (58 + 10 * k + 2)) + (nI (waitN f1 k)))), (0, .ref (G b))] dX6_longest_72 rfl (by decide) rfl ?_
          refine v_goto 11 dX6_longest_75 rfl ?_
          refine v_loc [0, 1, 2, 4] [(3, .int (nI (k + 1))), (2, .int ((f1 (58 + 10 * k + 2)) + (nI (waitN f1 k)))), (1, .int (nI k)), (0, .ref (G b))] rfl ?_
          exact ih _ (k + 1) (nI k) ((f1 (58 + 10 * k + 2)) + (nI (waitN f1 k))) u1 (show n - 1 < n by omega) (⟨by omega, by rw [longB, hL.2, longStep, ic_t (P := f1 (58 + 10 * k + 5) = 0) h26, ic_t (P := mo < f1 (58 + 10 * k + 2) + nI (waitN f1 k)) (Int32.not_le.mp h50)]⟩)

set_option maxHeartbeats 4000000 in
set_option maxRecDepth 100000 in
/-- saved_0 -/
theorem c_X6_saved_0 (lu : Launch) (Dg : va_G) (E : Nat → ClassId) (N : Nat) (G : Nat → Nat) (shp : Nat → (Nat → Int32) → va_E) (σ : Nat → Nat → Int32) {b : Nat} (hM : ModS E G shp N b) (f0 f1 f2 f3 f4 f5 f6 : Nat → Int32) {T : Nat} (hI : Inv T f1) (hT : T ≤ 999000) (hpd : f0 3 = nI 0) {l o : Nat} (hl : l < 2 ^ 31) (ho : o < 2 ^ 31) (hf : mergeFl f1 (nI l) (nI o) = 0)  : CX lu yX6_saved wsX6_saved { frames := 6, cells := 0, slots := 0, locals := 131 } Dg E N G shp (mk7 σ b f0 f1 f2 f3 f4 f5 f6) [.ref (G b), .int (nI l), .int (nI o)] (fun v' τ => v' = some (.int (nI (turnsN f1 (tn (f1 2))) - nI (turnsN (mergesF f1 l o) (tn (mergesF f1 l o 2))))) ∧ ∃ g2, (∀ i, i < 358 * 0 → g2 i = f2 i) ∧ τ = mk7 σ b (upd f0 0 (nI 0)) f1 g2 f3 f4 f5 f6) := by
  refine CX.of (cc := cX6_saved) (maxL := 6) (ret := (some .int)) (by decide) rfl (Nat.le_of_ble_eq_true rfl) ?_
  intro p_ e_ s_ m_ args_ below_ meth_ c_
  refine v_eq (pc' := 0) (st' := []) rfl rfl ?_
  refine v_loc [0, 1, 2] [(0, .ref (G b)), (1, .int (nI l)), (2, .int (nI o))] rfl ?_
  have hu : upd (upd (upd f0 0 (nI 0)) 3 (nI (0 + 1))) 3 (nI 0) = upd f0 0 (nI 0) := upd_self (by rw [upd_ap, if_neg (by omega)]; exact hpd)
  have hk := merge_ok hI hl ho hf
  have hIm := hI.merges hk.1 hk.2.1 hk.2.2.1 hk.2.2.2
  refine v_aload_n 0 dX6_saved_0 rfl rfl ?_
  refine v_aload_n 0 dX6_saved_1 rfl rfl ?_
  refine v_iload_n 1 dX6_saved_2 rfl rfl ?_
  refine v_iload_n 2 dX6_saved_3 rfl rfl ?_
  refine u_callVv [.int (nI l), .int (nI o)] [.ref (G b)] 2 (c_X6_mergeFault lu Dg E N G shp σ hM f0 f1 f2 f3 f4 f5 f6 hI (nI l) (nI o)) (ci := 6) (C := RX6) (T := TX6) (NF := 13) hM.n hM.s rfl gX6_saved_X6_mergeFault rfl rfl rfl (by decide +kernel) rfl ⟨Nat.le_of_ble_eq_true rfl, Nat.le_of_ble_eq_true rfl⟩ ⟨Nat.le_of_ble_eq_true rfl, Nat.le_of_ble_eq_true rfl⟩ (Nat.le_of_ble_eq_true rfl) rfl dX6_saved_4 ?_
  refine v_topi (nI 0) (congrArg nI hf) ?_
  refine u_callVv [.int (nI 0)] [] 1 (c_X6_holds lu Dg E N G shp σ hM f0 f1 f2 f3 f4 f5 f6 0 (by omega)) (ci := 6) (C := RX6) (T := TX6) (NF := 13) hM.n hM.s rfl gX6_saved_X6_holds rfl rfl rfl (by decide +kernel) rfl ⟨Nat.le_of_ble_eq_true rfl, Nat.le_of_ble_eq_true rfl⟩ ⟨Nat.le_of_ble_eq_true rfl, Nat.le_of_ble_eq_true rfl⟩ (Nat.le_of_ble_eq_true rfl) rfl dX6_saved_7 ?_
  refine v_if_neB 15 dX6_saved_10 rfl (fun h10 => ?_) (fun h10 => ?_)
  · skip
    refine v_aload_n 0 dX6_saved_15 rfl rfl ?_
    refine u_callVx [] [] 0 (c_X6_turns lu Dg E N G shp σ hM (upd f0 0 (nI 0)) f1 f2 f3 f4 f5 f6 hI (pd := 0) (by rw [upd_ap, if_neg (by omega)]; exact hpd) (by omega) (hI.allT hT)) (ci := 6) (C := RX6) (T := TX6) (NF := 13) hM.n hM.s rfl gX6_saved_X6_turns rfl rfl rfl (by decide +kernel) rfl ⟨Nat.le_of_ble_eq_true rfl, Nat.le_of_ble_eq_true rfl⟩ ⟨Nat.le_of_ble_eq_true rfl, Nat.le_of_ble_eq_true rfl⟩ (Nat.le_of_ble_eq_true rfl) rfl dX6_saved_16 (fun v9 τ9 hp9 => ?_)
    obtain ⟨rfl, u1, hu1, rfl⟩ := hp9
    refine v_st (st' := [.int (nI (turnsN f1 (tn (f1 2))))]) rfl ?_
    refine v_istore_n [(3, .int (nI (turnsN f1 (tn (f1 2))))), (0, .ref (G b)), (1, .int (nI l)), (2, .int (nI o))] dX6_saved_19 rfl (by decide) rfl ?_
    refine v_aload_n 1 dX6_saved_20 rfl rfl ?_
    refine u_callVn [] [] 0 (c_X6_push lu Dg E N G shp σ hM (upd f0 0 (nI 0)) f1 u1 f3 f4 f5 f6 (pd := 0) (by rw [upd_ap, if_neg (by omega)]; exact hpd) (by omega)) (ci := 6) (C := RX6) (T := TX6) (NF := 13) hM.n hM.s rfl gX6_saved_X6_push rfl rfl rfl (by decide +kernel) rfl ⟨Nat.le_of_ble_eq_true rfl, Nat.le_of_ble_eq_true rfl⟩ ⟨Nat.le_of_ble_eq_true rfl, Nat.le_of_ble_eq_true rfl⟩ (Nat.le_of_ble_eq_true rfl) rfl dX6_saved_21 ?_
    refine v_aload_n 1 dX6_saved_24 rfl rfl ?_
    refine v_iload_n 2 dX6_saved_25 rfl rfl ?_
    refine v_iload_n 3 dX6_saved_26 rfl rfl ?_
    refine u_callVv [.int (nI l), .int (nI o)] [] 2 (c_X6_merges lu Dg E N G shp σ hM (upd (upd f0 0 (nI 0)) 3 (nI (0 + 1))) f1 (cpF f1 u1 0 (358 * (0)) 358) f3 f4 f5 f6 hI hk.1 hk.2.1 hk.2.2.1 hk.2.2.2) (ci := 6) (C := RX6) (T := TX6) (NF := 13) hM.n hM.s rfl gX6_saved_X6_merges rfl rfl rfl (by decide +kernel) rfl ⟨Nat.le_of_ble_eq_true rfl, Nat.le_of_ble_eq_true rfl⟩ ⟨Nat.le_of_ble_eq_true rfl, Nat.le_of_ble_eq_true rfl⟩ (Nat.le_of_ble_eq_true rfl) rfl dX6_saved_27 ?_
    refine v_istore [(4, .int (nI (tn (f1 (13 + l)) + tn (f1 (13 + o))))), (3, .int (nI (turnsN f1 (tn (f1 2))))), (0, .ref (G b)), (1, .int (nI l)), (2, .int (nI o))] dX6_saved_30 (by decide) rfl ?_
    refine v_aload_n 2 dX6_saved_32 rfl rfl ?_
    refine u_callVx [] [] 0 (c_X6_turns lu Dg E N G shp σ hM (upd (upd f0 0 (nI 0)) 3 (nI (0 + 1))) (mergesF f1 l o) (cpF f1 u1 0 (358 * (0)) 358) f3 f4 f5 f6 hIm (pd := 0 + 1) (by rw [upd_ap, if_pos rfl]) (by omega) (hIm.allT hT)) (ci := 6) (C := RX6) (T := TX6) (NF := 13) hM.n hM.s rfl gX6_saved_X6_turns rfl rfl rfl (by decide +kernel) rfl ⟨Nat.le_of_ble_eq_true rfl, Nat.le_of_ble_eq_true rfl⟩ ⟨Nat.le_of_ble_eq_true rfl, Nat.le_of_ble_eq_true rfl⟩ (Nat.le_of_ble_eq_true rfl) rfl dX6_saved_33 (fun v9 τ9 hp9 => ?_)
    obtain ⟨rfl, u2, hu2, rfl⟩ := hp9
    refine v_st (st' := [.int (nI (turnsN (mergesF f1 l o) (tn (mergesF f1 l o 2))))]) rfl ?_
    refine v_istore [(5, .int (nI (turnsN (mergesF f1 l o) (tn (mergesF f1 l o 2))))), (4, .int (nI (tn (f1 (13 + l)) + tn (f1 (13 + o))))), (3, .int (nI (turnsN f1 (tn (f1 2))))), (0, .ref (G b)), (1, .int (nI l)), (2, .int (nI o))] dX6_saved_36 (by decide) rfl ?_
    refine v_aload_n 3 dX6_saved_38 rfl rfl ?_
    refine u_callVn [] [] 0 ((c_X6_pop lu Dg E N G shp σ hM (upd (upd f0 0 (nI 0)) 3 (nI (0 + 1))) (mergesF f1 l o) u2 f3 f4 f5 f6 (pd := 0) (by rw [upd_ap, if_pos rfl]) (by omega) f1 (fun i hi => by rw [hu2 _ (by omega), cpF_in _ _ (by omega) (by omega)]; congr 1; omega)).to rfl (congrArg (fun z9 => mk7 σ b z9 f1 u2 f3 f4 f5 f6) hu)) (ci := 6) (C := RX6) (T := TX6) (NF := 13) hM.n hM.s rfl gX6_saved_X6_pop rfl rfl rfl (by decide +kernel) rfl ⟨Nat.le_of_ble_eq_true rfl, Nat.le_of_ble_eq_true rfl⟩ ⟨Nat.le_of_ble_eq_true rfl, Nat.le_of_ble_eq_true rfl⟩ (Nat.le_of_ble_eq_true rfl) rfl dX6_saved_39 ?_
    refine v_iload_n 2 dX6_saved_42 rfl rfl ?_
    refine v_iload 0 dX6_saved_43 rfl ?_
    refine v_isub dX6_saved_45 ?_
    refine v_iret rfl dX6_saved_46 ⟨mk7 σ b (upd f0 0 (nI 0)) f1 u2 f3 f4 f5 f6, rfl, ⟨rfl, u2, fun i hi => by omega, rfl⟩⟩
  · skip
    exact absurd rfl h10
