/-- one comes, as the class does it -/
def comesC (c : Nat → Int32) (y k0 : Nat) : Nat → Int32 := upd (upd (enterP (upd c 2 (nI (tn (c 2) + 1))) (tn (c 2)) (nI k0) (nI y) (c 0)) (22 + 12 * y + tn (c (13 + y))) (nI (tn (c 2)))) (13 + y) (nI (tn (c (13 + y)) + 1))
set_option maxRecDepth 100000 in
theorem inX1_enter_X1 : ∀ w ∈ wsX10, w ∈ wsX1_enter := by decide +kernel
set_option maxHeartbeats 4000000 in
set_option maxRecDepth 100000 in
/-- Hall.enter -/
theorem c_X1_enter (lu : Launch) (Dg : va_G) (E : Nat → ClassId) (N : Nat) (G : Nat → Nat) (shp : Nat → (Nat → Int32) → va_E) (σ : Nat → Nat → Int32) {b : Nat} (hH : HallS E G shp N b) (c : Nat → Int32) {T : Nat} (hI : Inv T c) {y k0 : Nat} (hy : y < 2 ^ 31) (hk0 : k0 < 2 ^ 31)  : CS lu yX1_enter wsX1_enter { frames := 2, cells := 0, slots := 0, locals := 43 } Dg E N G shp (hs σ b c) [.ref (G b), .int (nI y), .int (nI k0)] (some (.int (ic (comeFl c (nI y) (nI k0) = 0) (nI (tn (c 2))) (-1)))) (hs σ b (ic (comeFl c (nI y) (nI k0) = 0) (comesC c y k0) c)) := by
  refine CS.of (cc := cX1_enter) (maxL := 4) (ret := (some .int)) (by decide) rfl (Nat.le_of_ble_eq_true rfl) ?_
  intro p_ e_ s_ m_ args_ below_ meth_ c_
  refine v_eq (pc' := 0) (st' := []) rfl rfl ?_
  refine v_loc [0, 1, 2] [(0, .ref (G b)), (1, .int (nI y)), (2, .int (nI k0))] rfl ?_
  refine v_aload_n 0 dX1_enter_0 rfl rfl ?_
  refine v_iload_n 1 dX1_enter_1 rfl rfl ?_
  refine v_iload_n 2 dX1_enter_2 rfl rfl ?_
  refine u_callVv [.int (nI y), .int (nI k0)] [] 2 (c_X1_mayEnter lu Dg E N G shp σ hH c hI (y := y) (k0 := k0) hy hk0) (ci := 1) (C := RX1) (T := TX1) (NF := 11) hH.n hH.s rfl gX1_enter_X1_mayEnter rfl rfl rfl (by decide +kernel) rfl ⟨Nat.le_of_ble_eq_true rfl, Nat.le_of_ble_eq_true rfl⟩ ⟨Nat.le_of_ble_eq_true rfl, Nat.le_of_ble_eq_true rfl⟩ (Nat.le_of_ble_eq_true rfl) rfl dX1_enter_3 ?_
  refine v_if_neB 11 dX1_enter_6 rfl (fun h6 => ?_) (fun h6 => ?_)
  · skip
    have hf := comeFl_0.mp h6
    have hyl := (Rg_nI (by omega) (by have := hI.nl3; omega)).mp hf.1
    have hl3 := Nat.lt_of_lt_of_le hyl hI.nl3
    have hnp : tn (c 2) < 30 := by have h1 := hI.np30; have h2 := hf.2.2.1; rw [hI.np] at h2; rcases Nat.lt_or_eq_of_le h1 with h3 | h3; exact h3; exact absurd (congrArg nI h3) h2
    have hln : tn (c (13 + y)) < 12 := by have h1 := hI.len12 hyl; have h2 := hf.2.2.2; rw [tn_nI (by omega), hI.len hyl] at h2; rcases Nat.lt_or_eq_of_le h1 with h3 | h3; exact h3; exact absurd (congrArg nI h3) h2
    refine v_aload_n 0 dX1_enter_11 rfl rfl ?_
    refine h_geti (g := c) (k := 1) (c 2) hH rfl (hF1 _) inX1_enter_X1 (by decide) (by decide +kernel) rfl dX1_enter_12 ?_
    refine v_topi (nI (tn (c 2))) (hI.np) ?_
    refine v_istore_n [(3, .int (nI (tn (c 2)))), (0, .ref (G b)), (1, .int (nI y)), (2, .int (nI k0))] dX1_enter_15 rfl (by decide) rfl ?_
    refine v_aload_n 1 dX1_enter_16 rfl rfl ?_
    refine v_dup dX1_enter_17 rfl ?_
    refine h_geti (g := c) (k := 1) (c 2) hH rfl (hF1 _) inX1_enter_X1 (by decide) (by decide +kernel) rfl dX1_enter_18 ?_
    refine v_topi (nI (tn (c 2))) (hI.np) ?_
    refine v_iconst (nI 1) dX1_enter_21 (by decide +kernel) ?_
    refine v_iaddN dX1_enter_22 ?_
    refine h_puti (k := 1) hH rfl (hst_h1 _) inX1_enter_X1 (by decide) (by decide +kernel) rfl rfl (by decide +kernel) dX1_enter_23 ?_
    generalize hg1 : upd c 2 (nI (tn (c 2) + 1)) = g1
    refine v_aload_n 1 dX1_enter_26 rfl rfl ?_
    refine v_iload_n 0 dX1_enter_27 rfl rfl ?_
    refine u_callVv [.int (nI (tn (c 2)))] [] 1 (c_X1_personOf lu Dg E N G shp σ hH g1 (k := tn (c 2)) (by omega)) (ci := 1) (C := RX1) (T := TX1) (NF := 11) hH.n hH.s rfl gX1_enter_X1_personOf rfl rfl rfl (by decide +kernel) rfl ⟨Nat.le_of_ble_eq_true rfl, Nat.le_of_ble_eq_true rfl⟩ ⟨Nat.le_of_ble_eq_true rfl, Nat.le_of_ble_eq_true rfl⟩ (Nat.le_of_ble_eq_true rfl) rfl dX1_enter_28 ?_
    refine v_iload_n 3 dX1_enter_31 rfl rfl ?_
    refine v_iload_n 2 dX1_enter_32 rfl rfl ?_
    refine v_aload_n 1 dX1_enter_33 rfl rfl ?_
    refine h_geti (g := g1) (k := 2) (g1 0) hH rfl (hF2 _) inX1_enter_X1 (by decide) (by decide +kernel) rfl dX1_enter_34 ?_
    refine v_topi (c 0) ((by rw [← hg1, upd_ap, if_neg (by omega)])) ?_
    refine u_callVn [.int (nI k0), .int (nI y), .int (c 0)] [] 3 (c_X4_enter lu Dg E N G shp σ hH g1 (q := tn (c 2)) (by omega) (nI k0) (nI y) (c 0)) (ci := 4) (C := RX4) (T := TX4) (NF := 9) (hH.pe (p := tn (c 2)) (by omega)).1 (hH.pe (p := tn (c 2)) (by omega)).2 rfl gX1_enter_X4_enter rfl rfl rfl (by decide +kernel) rfl ⟨Nat.le_of_ble_eq_true rfl, Nat.le_of_ble_eq_true rfl⟩ ⟨Nat.le_of_ble_eq_true rfl, Nat.le_of_ble_eq_true rfl⟩ (Nat.le_of_ble_eq_true rfl) rfl dX1_enter_37 ?_
    refine v_aload_n 1 dX1_enter_40 rfl rfl ?_
    refine v_iload_n 2 dX1_enter_41 rfl rfl ?_
    refine u_callVv [.int (nI y)] [] 1 (c_X1_lineOf lu Dg E N G shp σ hH (enterP g1 (tn (c 2)) (nI k0) (nI y) (c 0)) (k := y) (by omega)) (ci := 1) (C := RX1) (T := TX1) (NF := 11) hH.n hH.s rfl gX1_enter_X1_lineOf rfl rfl rfl (by decide +kernel) rfl ⟨Nat.le_of_ble_eq_true rfl, Nat.le_of_ble_eq_true rfl⟩ ⟨Nat.le_of_ble_eq_true rfl, Nat.le_of_ble_eq_true rfl⟩ (Nat.le_of_ble_eq_true rfl) rfl dX1_enter_42 ?_
    refine v_iload_n 0 dX1_enter_45 rfl rfl ?_
    refine u_callVn [.int (nI (tn (c 2)))] [] 1 (c_X3_add lu Dg E N G shp σ hH (enterP g1 (tn (c 2)) (nI k0) (nI y) (c 0)) (l := y) hl3 (len := tn (c (13 + y))) (by rw [← hI.len hyl]; subst hg1; simp only [enterP, upd_ap]; grind) hln (nI (tn (c 2)))) (ci := 3) (C := RX3) (T := TX3) (NF := 5) (hH.li (l := y) (by omega)).n (hH.li (l := y) (by omega)).2.1 rfl gX1_enter_X3_add rfl rfl rfl (by decide +kernel) rfl ⟨Nat.le_of_ble_eq_true rfl, Nat.le_of_ble_eq_true rfl⟩ ⟨Nat.le_of_ble_eq_true rfl, Nat.le_of_ble_eq_true rfl⟩ (Nat.le_of_ble_eq_true rfl) rfl dX1_enter_46 ?_
    refine v_iload_n 0 dX1_enter_49 rfl rfl ?_
    refine v_iret rfl dX1_enter_50 ⟨congrArg (fun z => some (Value.int z)) ?_, congrArg (φ shp) ?_⟩
    · exact (ic_t h6).symm
    · subst hg1; rw [ic_t h6, comesC]
  · skip
    refine v_iconst ((-1)) dX1_enter_9 (by decide +kernel) ?_
    refine v_iret rfl dX1_enter_10 ⟨congrArg (fun z => some (Value.int z)) ?_, congrArg (φ shp) ?_⟩
    · exact (ic_f h6).symm
    · rw [ic_f h6]
theorem shF_upd (s : Nat → Int32) {a k j i : Nat} {v : Int32} (h : i < a + k) : shF (upd s i v) a k j = upd (shF s a k j) i v := by
  funext x; simp only [shF, upd_ap]
  by_cases e : x = i
  · rw [if_pos e, if_neg (by omega), if_pos e]
  · rw [if_neg e, if_neg e]
    by_cases e2 : a + k ≤ x ∧ x < a + j
    · rw [if_pos e2, if_pos e2, if_neg (by omega)]
    · rw [if_neg e2, if_neg e2]
set_option maxRecDepth 100000 in
theorem inX1_leave_X4 : ∀ w ∈ wsX40, w ∈ wsX1_leave := by decide +kernel
set_option maxHeartbeats 4000000 in
set_option maxRecDepth 100000 in
/-- Hall.leave -/
theorem c_X1_leave (lu : Launch) (Dg : va_G) (E : Nat → ClassId) (N : Nat) (G : Nat → Nat) (shp : Nat → (Nat → Int32) → va_E) (σ : Nat → Nat → Int32) {b : Nat} (hH : HallS E G shp N b) (c : Nat → Int32) {T : Nat} (hI : Inv T c) {p : Nat} (hp : p < 2 ^ 31)  : CS lu yX1_leave wsX1_leave { frames := 2, cells := 0, slots := 0, locals := 43 } Dg E N G shp (hs σ b c) [.ref (G b), .int (nI p)] (some (.int (ic (p < tn (c 2) ∧ c (58 + 10 * p + 5) = 0) (c (58 + 10 * p + 2)) (-1)))) (hs σ b (ic (p < tn (c 2) ∧ c (58 + 10 * p + 5) = 0) (goesS c p) c)) := by
  refine CS.of (cc := cX1_leave) (maxL := 2) (ret := (some .int)) (by decide) rfl (Nat.le_of_ble_eq_true rfl) ?_
  intro p_ e_ s_ m_ args_ below_ meth_ c_
  refine v_eq (pc' := 0) (st' := []) rfl rfl ?_
  refine v_loc [0, 1] [(0, .ref (G b)), (1, .int (nI p))] rfl ?_
  refine v_aload_n 0 dX1_leave_0 rfl rfl ?_
  refine v_iload_n 1 dX1_leave_1 rfl rfl ?_
  refine u_callVv [.int (nI p)] [] 1 (c_X1_stands lu Dg E N G shp σ hH c hI.np hI.np30 (p := p) (by omega)) (ci := 1) (C := RX1) (T := TX1) (NF := 11) hH.n hH.s rfl gX1_leave_X1_stands rfl rfl rfl (by decide +kernel) rfl ⟨Nat.le_of_ble_eq_true rfl, Nat.le_of_ble_eq_true rfl⟩ ⟨Nat.le_of_ble_eq_true rfl, Nat.le_of_ble_eq_true rfl⟩ (Nat.le_of_ble_eq_true rfl) rfl dX1_leave_2 ?_
  refine v_if_neB 10 dX1_leave_5 rfl (fun h5 => ?_) (fun h5 => ?_)
  · skip
    have hq := hI.plcs h5.1 h5.2
    have hp30 := Nat.lt_of_lt_of_le h5.1 hI.np30
    have hl3 := Nat.lt_of_lt_of_le hq.1 hI.nl3
    have hk12 := hI.len12 hq.1
    refine v_aload_n 0 dX1_leave_10 rfl rfl ?_
    refine v_aload_n 0 dX1_leave_11 rfl rfl ?_
    refine v_iload_n 1 dX1_leave_12 rfl rfl ?_
    refine u_callVv [.int (nI p)] [.ref (G b)] 1 (c_X1_personOf lu Dg E N G shp σ hH c (k := p) (by omega)) (ci := 1) (C := RX1) (T := TX1) (NF := 11) hH.n hH.s rfl gX1_leave_X1_personOf rfl rfl rfl (by decide +kernel) rfl ⟨Nat.le_of_ble_eq_true rfl, Nat.le_of_ble_eq_true rfl⟩ ⟨Nat.le_of_ble_eq_true rfl, Nat.le_of_ble_eq_true rfl⟩ (Nat.le_of_ble_eq_true rfl) rfl dX1_leave_13 ?_
    refine p_geti (g := c) (k := 1) (q := p) (by omega) (c (58 + 10 * p + 1)) hH rfl (pF1 _ _) inX1_leave_X4 (by decide) (by decide +kernel) rfl dX1_leave_16 ?_
    refine v_topi (nI (liN c p)) (hq.2.1) ?_
    refine u_callVv [.int (nI (liN c p))] [] 1 (c_X1_lineOf lu Dg E N G shp σ hH c (k := liN c p) (by omega)) (ci := 1) (C := RX1) (T := TX1) (NF := 11) hH.n hH.s rfl gX1_leave_X1_lineOf rfl rfl rfl (by decide +kernel) rfl ⟨Nat.le_of_ble_eq_true rfl, Nat.le_of_ble_eq_true rfl⟩ ⟨Nat.le_of_ble_eq_true rfl, Nat.le_of_ble_eq_true rfl⟩ (Nat.le_of_ble_eq_true rfl) rfl dX1_leave_19 ?_
    refine v_aload_n 0 dX1_leave_22 rfl rfl ?_
    refine v_iload_n 1 dX1_leave_23 rfl rfl ?_
    refine u_callVv [.int (nI p)] [.ref (G (b + 7 + 2 * (liN c p)))] 1 (c_X1_placeOf lu Dg E N G shp σ hH c hI (p := p) h5.1 h5.2) (ci := 1) (C := RX1) (T := TX1) (NF := 11) hH.n hH.s rfl gX1_leave_X1_placeOf rfl rfl rfl (by decide +kernel) rfl ⟨Nat.le_of_ble_eq_true rfl, Nat.le_of_ble_eq_true rfl⟩ ⟨Nat.le_of_ble_eq_true rfl, Nat.le_of_ble_eq_true rfl⟩ (Nat.le_of_ble_eq_true rfl) rfl dX1_leave_24 ?_
    refine u_callVn [.int (nI (plc c p))] [] 1 (c_X3_remove lu Dg E N G shp σ hH c (l := liN c p) hl3 (hI.len hq.1) hk12 (k := plc c p) hq.2.2.1) (ci := 3) (C := RX3) (T := TX3) (NF := 5) (hH.li (l := liN c p) (by omega)).n (hH.li (l := liN c p) (by omega)).2.1 rfl gX1_leave_X3_remove rfl rfl rfl (by decide +kernel) rfl ⟨Nat.le_of_ble_eq_true rfl, Nat.le_of_ble_eq_true rfl⟩ ⟨Nat.le_of_ble_eq_true rfl, Nat.le_of_ble_eq_true rfl⟩ (Nat.le_of_ble_eq_true rfl) rfl dX1_leave_27 ?_
    refine v_aload_n 0 dX1_leave_30 rfl rfl ?_
    refine v_iload_n 1 dX1_leave_31 rfl rfl ?_
    refine u_callVv [.int (nI p)] [] 1 (c_X1_personOf lu Dg E N G shp σ hH (shF (upd c (13 + liN c p) (nI (tn (c (13 + liN c p)) - 1))) (22 + 12 * liN c p) (plc c p) (tn (c (13 + liN c p)) - 1)) (k := p) (by omega)) (ci := 1) (C := RX1) (T := TX1) (NF := 11) hH.n hH.s rfl gX1_leave_X1_personOf rfl rfl rfl (by decide +kernel) rfl ⟨Nat.le_of_ble_eq_true rfl, Nat.le_of_ble_eq_true rfl⟩ ⟨Nat.le_of_ble_eq_true rfl, Nat.le_of_ble_eq_true rfl⟩ (Nat.le_of_ble_eq_true rfl) rfl dX1_leave_32 ?_
    refine v_iconst (nI 2) dX1_leave_35 (by decide +kernel) ?_
    refine u_callVn [.int (nI 2)] [] 1 (c_X4_end lu Dg E N G shp σ hH (shF (upd c (13 + liN c p) (nI (tn (c (13 + liN c p)) - 1))) (22 + 12 * liN c p) (plc c p) (tn (c (13 + liN c p)) - 1)) (q := p) (by omega) (nI 2)) (ci := 4) (C := RX4) (T := TX4) (NF := 9) (hH.pe (p := p) (by omega)).1 (hH.pe (p := p) (by omega)).2 rfl gX1_leave_X4_end rfl rfl rfl (by decide +kernel) rfl ⟨Nat.le_of_ble_eq_true rfl, Nat.le_of_ble_eq_true rfl⟩ ⟨Nat.le_of_ble_eq_true rfl, Nat.le_of_ble_eq_true rfl⟩ (Nat.le_of_ble_eq_true rfl) rfl dX1_leave_36 ?_
    refine v_σ (hs σ b (goesS c p)) (congrArg (fun z9 => hs σ b z9) ((by rw [shF_upd _ (by omega)]; rfl))) ?_
    refine v_aload_n 0 dX1_leave_39 rfl rfl ?_
    refine v_iload_n 1 dX1_leave_40 rfl rfl ?_
    refine u_callVv [.int (nI p)] [] 1 (c_X1_personOf lu Dg E N G shp σ hH (goesS c p) (k := p) (by omega)) (ci := 1) (C := RX1) (T := TX1) (NF := 11) hH.n hH.s rfl gX1_leave_X1_personOf rfl rfl rfl (by decide +kernel) rfl ⟨Nat.le_of_ble_eq_true rfl, Nat.le_of_ble_eq_true rfl⟩ ⟨Nat.le_of_ble_eq_true rfl, Nat.le_of_ble_eq_true rfl⟩ (Nat.le_of_ble_eq_true rfl) rfl dX1_leave_41 ?_
    refine p_geti (g := (goesS c p)) (k := 3) (q := p) (by omega) ((goesS c p) (58 + 10 * p + 2)) hH rfl (pF3 _ _) inX1_leave_X4 (by decide) (by decide +kernel) rfl dX1_leave_44 ?_
    refine v_topi (c (58 + 10 * p + 2)) (leavesF_out (by omega) (by omega) (by omega) (Or.inr (by omega))) ?_
    refine v_iret rfl dX1_leave_47 ⟨congrArg (fun z => some (Value.int z)) ?_, congrArg (φ shp) ?_⟩
    · exact (ic_t h5).symm
    · rw [ic_t h5]
  · skip
    refine v_iconst ((-1)) dX1_leave_8 (by decide +kernel) ?_
    refine v_iret rfl dX1_leave_9 ⟨congrArg (fun z => some (Value.int z)) ?_, congrArg (φ shp) ?_⟩
    · exact (ic_f h5).symm
    · rw [ic_f h5]
theorem MayX_iff {c : Nat → Int32} {p q : Nat} (a x : Int32) : (0 ≤ a + x - c 8 * nI (plc c p - plc c q)) ↔ (0 ≤ a - nI (plc c p - plc c q) * c 8 + x) := by
  have e : a + x - c 8 * nI (plc c p - plc c q) = a - nI (plc c p - plc c q) * c 8 + x := by rw [Int32.mul_comm (c 8)]; grind
  rw [e]
set_option maxRecDepth 100000 in
theorem inX1_mayTrade_X4 : ∀ w ∈ wsX40, w ∈ wsX1_mayTrade := by decide +kernel
set_option maxHeartbeats 4000000 in
set_option maxRecDepth 100000 in
/-- Hall.mayTrade -/
theorem c_X1_mayTrade (lu : Launch) (Dg : va_G) (E : Nat → ClassId) (N : Nat) (G : Nat → Nat) (shp : Nat → (Nat → Int32) → va_E) (σ : Nat → Nat → Int32) {b : Nat} (hH : HallS E G shp N b) (c : Nat → Int32) {T : Nat} (hI : Inv T c) {p q : Nat} (hp : p < 2 ^ 31) (hq : q < 2 ^ 31)  : CS lu yX1_mayTrade wsX1_mayTrade { frames := 2, cells := 0, slots := 0, locals := 43 } Dg E N G shp (hs σ b c) [.ref (G b), .int (nI p), .int (nI q)] (some (.int (bi (p < tn (c 2) ∧ q < tn (c 2) ∧ MayX c p q)))) (hs σ b c) := by
  refine CS.of (cc := cX1_mayTrade) (maxL := 5) (ret := (some .boolean)) (by decide) rfl (Nat.le_of_ble_eq_true rfl) ?_
  intro p_ e_ s_ m_ args_ below_ meth_ c_
  refine v_eq (pc' := 0) (st' := []) rfl rfl ?_
  refine v_loc [0, 1, 2] [(0, .ref (G b)), (1, .int (nI p)), (2, .int (nI q))] rfl ?_
  refine v_aload_n 0 dX1_mayTrade_0 rfl rfl ?_
  refine v_iload_n 1 dX1_mayTrade_1 rfl rfl ?_
  refine u_callVv [.int (nI p)] [] 1 (c_X1_stands lu Dg E N G shp σ hH c hI.np hI.np30 (p := p) (by omega)) (ci := 1) (C := RX1) (T := TX1) (NF := 11) hH.n hH.s rfl gX1_mayTrade_X1_stands rfl rfl rfl (by decide +kernel) rfl ⟨Nat.le_of_ble_eq_true rfl, Nat.le_of_ble_eq_true rfl⟩ ⟨Nat.le_of_ble_eq_true rfl, Nat.le_of_ble_eq_true rfl⟩ (Nat.le_of_ble_eq_true rfl) rfl dX1_mayTrade_2 ?_
  refine v_if_eqB 16 dX1_mayTrade_5 rfl (fun h5 => ?_) (fun h5 => ?_)
  · skip
    refine v_iconst (nI 0) dX1_mayTrade_16 (by decide +kernel) ?_
    refine v_zret rfl (by decide +kernel) dX1_mayTrade_17 ⟨congrArg (fun z => some (Value.int z)) ?_, congrArg (φ shp) ?_⟩
    · exact bi_nf (fun q9 => by first | exact h5 ⟨q9.1, q9.2.2.1⟩ | exact h13 ⟨q9.2.1, q9.2.2.2.1⟩ | exact h49 q9.2.2.2.2.1 | exact hlt q9.2.2.2.2.2.1 | exact absurd ((MayX_iff _ _).mpr q9.2.2.2.2.2.2) (Int32.not_le.mpr h73))
    · rfl
  · skip
    have hqp := hI.plcs h5.1 h5.2
    have hp30 := Nat.lt_of_lt_of_le h5.1 hI.np30
    refine v_aload_n 0 dX1_mayTrade_8 rfl rfl ?_
    refine v_iload_n 2 dX1_mayTrade_9 rfl rfl ?_
    refine u_callVv [.int (nI q)] [] 1 (c_X1_stands lu Dg E N G shp σ hH c hI.np hI.np30 (p := q) (by omega)) (ci := 1) (C := RX1) (T := TX1) (NF := 11) hH.n hH.s rfl gX1_mayTrade_X1_stands rfl rfl rfl (by decide +kernel) rfl ⟨Nat.le_of_ble_eq_true rfl, Nat.le_of_ble_eq_true rfl⟩ ⟨Nat.le_of_ble_eq_true rfl, Nat.le_of_ble_eq_true rfl⟩ (Nat.le_of_ble_eq_true rfl) rfl dX1_mayTrade_10 ?_
    refine v_if_neB 18 dX1_mayTrade_13 rfl (fun h13 => ?_) (fun h13 => ?_)
    · skip
      have hqq := hI.plcs h13.1 h13.2
      have hq30 := Nat.lt_of_lt_of_le h13.1 hI.np30
      have hkp := hqp.2.2.1
      have hk12 := hI.len12 hqp.1
      have hkq := hqq.2.2.1
      have hk12q := hI.len12 hqq.1
      refine v_aload_n 0 dX1_mayTrade_18 rfl rfl ?_
      refine v_iload_n 1 dX1_mayTrade_19 rfl rfl ?_
      refine u_callVv [.int (nI p)] [] 1 (c_X1_personOf lu Dg E N G shp σ hH c (k := p) (by omega)) (ci := 1) (C := RX1) (T := TX1) (NF := 11) hH.n hH.s rfl gX1_mayTrade_X1_personOf rfl rfl rfl (by decide +kernel) rfl ⟨Nat.le_of_ble_eq_true rfl, Nat.le_of_ble_eq_true rfl⟩ ⟨Nat.le_of_ble_eq_true rfl, Nat.le_of_ble_eq_true rfl⟩ (Nat.le_of_ble_eq_true rfl) rfl dX1_mayTrade_20 ?_
      refine v_astore_n [(3, .ref (G (b + 13 + p))), (0, .ref (G b)), (1, .int (nI p)), (2, .int (nI q))] dX1_mayTrade_23 rfl (by decide) rfl ?_
      refine v_aload_n 1 dX1_mayTrade_24 rfl rfl ?_
      refine v_iload_n 2 dX1_mayTrade_25 rfl rfl ?_
      refine u_callVv [.int (nI p)] [] 1 (c_X1_placeOf lu Dg E N G shp σ hH c hI (p := p) h5.1 h5.2) (ci := 1) (C := RX1) (T := TX1) (NF := 11) hH.n hH.s rfl gX1_mayTrade_X1_placeOf rfl rfl rfl (by decide +kernel) rfl ⟨Nat.le_of_ble_eq_true rfl, Nat.le_of_ble_eq_true rfl⟩ ⟨Nat.le_of_ble_eq_true rfl, Nat.le_of_ble_eq_true rfl⟩ (Nat.le_of_ble_eq_true rfl) rfl dX1_mayTrade_26 ?_
      refine v_aload_n 1 dX1_mayTrade_29 rfl rfl ?_
      refine v_iload_n 3 dX1_mayTrade_30 rfl rfl ?_
      refine u_callVv [.int (nI q)] [.int (nI (plc c p))] 1 (c_X1_placeOf lu Dg E N G shp σ hH c hI (p := q) h13.1 h13.2) (ci := 1) (C := RX1) (T := TX1) (NF := 11) hH.n hH.s rfl gX1_mayTrade_X1_placeOf rfl rfl rfl (by decide +kernel) rfl ⟨Nat.le_of_ble_eq_true rfl, Nat.le_of_ble_eq_true rfl⟩ ⟨Nat.le_of_ble_eq_true rfl, Nat.le_of_ble_eq_true rfl⟩ (Nat.le_of_ble_eq_true rfl) rfl dX1_mayTrade_31 ?_
      refine v_isub dX1_mayTrade_34 ?_
      by_cases hlt : plc c q < plc c p
      · skip
        refine v_topi (nI (plc c p - plc c q)) (pk_sub (by omega)) ?_
        refine v_istore [(4, .int (nI (plc c p - plc c q))), (3, .ref (G (b + 13 + p))), (0, .ref (G b)), (1, .int (nI p)), (2, .int (nI q))] dX1_mayTrade_35 (by decide) rfl ?_
        refine v_aload_n 1 dX1_mayTrade_37 rfl rfl ?_
        refine p_geti (g := c) (k := 1) (q := p) (by omega) (c (58 + 10 * p + 1)) hH rfl (pF1 _ _) inX1_mayTrade_X4 (by decide) (by decide +kernel) rfl dX1_mayTrade_38 ?_
        refine v_aload_n 2 dX1_mayTrade_41 rfl rfl ?_
        refine v_iload_n 4 dX1_mayTrade_42 rfl rfl ?_
        refine u_callVv [.int (nI q)] [.int (c (58 + 10 * p + 1))] 1 (c_X1_personOf lu Dg E N G shp σ hH c (k := q) (by omega)) (ci := 1) (C := RX1) (T := TX1) (NF := 11) hH.n hH.s rfl gX1_mayTrade_X1_personOf rfl rfl rfl (by decide +kernel) rfl ⟨Nat.le_of_ble_eq_true rfl, Nat.le_of_ble_eq_true rfl⟩ ⟨Nat.le_of_ble_eq_true rfl, Nat.le_of_ble_eq_true rfl⟩ (Nat.le_of_ble_eq_true rfl) rfl dX1_mayTrade_43 ?_
        refine p_geti (g := c) (k := 1) (q := q) (by omega) (c (58 + 10 * q + 1)) hH rfl (pF1 _ _) inX1_mayTrade_X4 (by decide) (by decide +kernel) rfl dX1_mayTrade_46 ?_
        refine v_icmp_ne 80 dX1_mayTrade_49 rfl (fun h49 => ?_) (fun h49 => ?_)
        · skip
          refine v_iconst (nI 0) dX1_mayTrade_80 (by decide +kernel) ?_
          refine v_zret rfl (by decide +kernel) dX1_mayTrade_81 ⟨congrArg (fun z => some (Value.int z)) ?_, congrArg (φ shp) ?_⟩
          · exact bi_nf (fun q9 => by first | exact h5 ⟨q9.1, q9.2.2.1⟩ | exact h13 ⟨q9.2.1, q9.2.2.2.1⟩ | exact h49 q9.2.2.2.2.1 | exact hlt q9.2.2.2.2.2.1 | exact absurd ((MayX_iff _ _).mpr q9.2.2.2.2.2.2) (Int32.not_le.mpr h73))
          · rfl
        · skip
          refine v_iload 0 dX1_mayTrade_52 rfl ?_
          refine v_if_leN 80 (by omega) dX1_mayTrade_54 rfl (fun h54 => ?_) (fun h54 => ?_)
          · skip
            omega
          · skip
            refine v_aload_n 1 dX1_mayTrade_57 rfl rfl ?_
            refine p_geti (g := c) (k := 4) (q := p) (by omega) (c (58 + 10 * p + 3)) hH rfl (pF4 _ _) inX1_mayTrade_X4 (by decide) (by decide +kernel) rfl dX1_mayTrade_58 ?_
            refine v_aload_n 1 dX1_mayTrade_61 rfl rfl ?_
            refine p_geti (g := c) (k := 3) (q := p) (by omega) (c (58 + 10 * p + 2)) hH rfl (pF3 _ _) inX1_mayTrade_X4 (by decide) (by decide +kernel) rfl dX1_mayTrade_62 ?_
            refine v_iadd dX1_mayTrade_65 ?_
            refine v_aload_n 2 dX1_mayTrade_66 rfl rfl ?_
            refine v_iload 0 dX1_mayTrade_67 rfl ?_
            refine u_callVv [.int (nI (plc c p - plc c q))] [.int ((c (58 + 10 * p + 3)) + (c (58 + 10 * p + 2)))] 1 (c_X1_priceOf lu Dg E N G shp σ hH c (plc c p - plc c q)) (ci := 1) (C := RX1) (T := TX1) (NF := 11) hH.n hH.s rfl gX1_mayTrade_X1_priceOf rfl rfl rfl (by decide +kernel) rfl ⟨Nat.le_of_ble_eq_true rfl, Nat.le_of_ble_eq_true rfl⟩ ⟨Nat.le_of_ble_eq_true rfl, Nat.le_of_ble_eq_true rfl⟩ (Nat.le_of_ble_eq_true rfl) rfl dX1_mayTrade_69 ?_
            refine v_isub dX1_mayTrade_72 ?_
            refine v_if_lt 80 dX1_mayTrade_73 rfl (fun h73 => ?_) (fun h73 => ?_)
            · skip
              refine v_iconst (nI 0) dX1_mayTrade_80 (by decide +kernel) ?_
              refine v_zret rfl (by decide +kernel) dX1_mayTrade_81 ⟨congrArg (fun z => some (Value.int z)) ?_, congrArg (φ shp) ?_⟩
              · exact bi_nf (fun q9 => by first | exact h5 ⟨q9.1, q9.2.2.1⟩ | exact h13 ⟨q9.2.1, q9.2.2.2.1⟩ | exact h49 q9.2.2.2.2.1 | exact hlt q9.2.2.2.2.2.1 | exact absurd ((MayX_iff _ _).mpr q9.2.2.2.2.2.2) (Int32.not_le.mpr h73))
              · rfl
            · skip
              refine v_iconst (nI 1) dX1_mayTrade_76 (by decide +kernel) ?_
              refine v_goto 81 dX1_mayTrade_77 rfl ?_
              refine v_zret rfl (by decide +kernel) dX1_mayTrade_81 ⟨congrArg (fun z => some (Value.int z)) ?_, congrArg (φ shp) ?_⟩
              · exact bi_nt ⟨h5.1, h13.1, h5.2, h13.2, h49, hlt, (MayX_iff _ _).mp (Int32.not_lt.mp h73)⟩
              · rfl
      · skip
        have hsg : ¬ 0 < nI (plc c p) - nI (plc c q) := npos (by omega) (by omega) (Nat.le_of_not_lt hlt)
        refine v_istore [(4, .int ((nI (plc c p)) - (nI (plc c q)))), (3, .ref (G (b + 13 + p))), (0, .ref (G b)), (1, .int (nI p)), (2, .int (nI q))] dX1_mayTrade_35 (by decide) rfl ?_
        refine v_aload_n 1 dX1_mayTrade_37 rfl rfl ?_
        refine p_geti (g := c) (k := 1) (q := p) (by omega) (c (58 + 10 * p + 1)) hH rfl (pF1 _ _) inX1_mayTrade_X4 (by decide) (by decide +kernel) rfl dX1_mayTrade_38 ?_
        refine v_aload_n 2 dX1_mayTrade_41 rfl rfl ?_
        refine v_iload_n 4 dX1_mayTrade_42 rfl rfl ?_
        refine u_callVv [.int (nI q)] [.int (c (58 + 10 * p + 1))] 1 (c_X1_personOf lu Dg E N G shp σ hH c (k := q) (by omega)) (ci := 1) (C := RX1) (T := TX1) (NF := 11) hH.n hH.s rfl gX1_mayTrade_X1_personOf rfl rfl rfl (by decide +kernel) rfl ⟨Nat.le_of_ble_eq_true rfl, Nat.le_of_ble_eq_true rfl⟩ ⟨Nat.le_of_ble_eq_true rfl, Nat.le_of_ble_eq_true rfl⟩ (Nat.le_of_ble_eq_true rfl) rfl dX1_mayTrade_43 ?_
        refine p_geti (g := c) (k := 1) (q := q) (by omega) (c (58 + 10 * q + 1)) hH rfl (pF1 _ _) inX1_mayTrade_X4 (by decide) (by decide +kernel) rfl dX1_mayTrade_46 ?_
        refine v_icmp_ne 80 dX1_mayTrade_49 rfl (fun h49 => ?_) (fun h49 => ?_)
        · skip
          refine v_iconst (nI 0) dX1_mayTrade_80 (by decide +kernel) ?_
          refine v_zret rfl (by decide +kernel) dX1_mayTrade_81 ⟨congrArg (fun z => some (Value.int z)) ?_, congrArg (φ shp) ?_⟩
          · exact bi_nf (fun q9 => by first | exact h5 ⟨q9.1, q9.2.2.1⟩ | exact h13 ⟨q9.2.1, q9.2.2.2.1⟩ | exact h49 q9.2.2.2.2.1 | exact hlt q9.2.2.2.2.2.1 | exact absurd ((MayX_iff _ _).mpr q9.2.2.2.2.2.2) (Int32.not_le.mpr h73))
          · rfl
        · skip
          refine v_iload 0 dX1_mayTrade_52 rfl ?_
          refine v_if_le 80 dX1_mayTrade_54 rfl (fun h54 => ?_) (fun h54 => ?_)
          · skip
            refine v_iconst (nI 0) dX1_mayTrade_80 (by decide +kernel) ?_
            refine v_zret rfl (by decide +kernel) dX1_mayTrade_81 ⟨congrArg (fun z => some (Value.int z)) ?_, congrArg (φ shp) ?_⟩
            · exact bi_nf (fun q9 => by first | exact h5 ⟨q9.1, q9.2.2.1⟩ | exact h13 ⟨q9.2.1, q9.2.2.2.1⟩ | exact h49 q9.2.2.2.2.1 | exact hlt q9.2.2.2.2.2.1 | exact absurd ((MayX_iff _ _).mpr q9.2.2.2.2.2.2) (Int32.not_le.mpr h73))
            · rfl
          · skip
            exact absurd (Int32.not_le.mp h54) hsg
    · skip
      refine v_iconst (nI 0) dX1_mayTrade_16 (by decide +kernel) ?_
      refine v_zret rfl (by decide +kernel) dX1_mayTrade_17 ⟨congrArg (fun z => some (Value.int z)) ?_, congrArg (φ shp) ?_⟩
      · exact bi_nf (fun q9 => by first | exact h5 ⟨q9.1, q9.2.2.1⟩ | exact h13 ⟨q9.2.1, q9.2.2.2.1⟩ | exact h49 q9.2.2.2.2.1 | exact hlt q9.2.2.2.2.2.1 | exact absurd ((MayX_iff _ _).mpr q9.2.2.2.2.2.2) (Int32.not_le.mpr h73))
      · rfl
set_option maxRecDepth 100000 in
theorem inX1_changeSetting_X1 : ∀ w ∈ wsX10, w ∈ wsX1_changeSetting := by decide +kernel
set_option maxHeartbeats 4000000 in
set_option maxRecDepth 100000 in
/-- Hall.changeSetting -/
theorem c_X1_changeSetting (lu : Launch) (Dg : va_G) (E : Nat → ClassId) (N : Nat) (G : Nat → Nat) (shp : Nat → (Nat → Int32) → va_E) (σ : Nat → Nat → Int32) {b : Nat} (hH : HallS E G shp N b) (c : Nat → Int32) {k : Nat} (hk : k < 4) (x : Int32)  : CS lu yX1_changeSetting wsX1_changeSetting { frames := 0, cells := 0, slots := 0, locals := 0 } Dg E N G shp (hs σ b c) [.ref (G b), .int (nI k), .int x] (some (.int (c (6 + k)))) (hs σ b (upd c (6 + k) x)) := by
  refine CS.of (cc := cX1_changeSetting) (maxL := 4) (ret := (some .int)) (by decide) rfl (Nat.le_of_ble_eq_true rfl) ?_
  intro p_ e_ s_ m_ args_ below_ meth_ c_
  refine v_eq (pc' := 0) (st' := []) rfl rfl ?_
  refine v_loc [0, 1, 2] [(0, .ref (G b)), (1, .int (nI k)), (2, .int x)] rfl ?_
  refine v_iload_n 1 dX1_changeSetting_0 rfl rfl ?_
  refine v_if_ltN (by omega) dX1_changeSetting_1 ⟨13, rfl⟩ ?_
  refine v_iload_n 1 dX1_changeSetting_4 rfl rfl ?_
  refine v_aload_n 0 dX1_changeSetting_5 rfl rfl ?_
  refine u_getr (k := 6) (C := RX1) (T := TX1) (NF := 11) hH.n hH.s rfl rfl inX1_changeSetting_X1 (by decide) (by decide +kernel) rfl dX1_changeSetting_6 ?_
  refine u_alenI 0 hH.n1 hH.s1 rfl dX1_changeSetting_9 ?_
  refine v_icmp_ltN 15 (by omega) (by omega) dX1_changeSetting_10 rfl (fun h10 => ?_) (fun h10 => ?_)
  · skip
    refine v_aload_n 0 dX1_changeSetting_15 rfl rfl ?_
    refine u_getr (k := 6) (C := RX1) (T := TX1) (NF := 11) hH.n hH.s rfl rfl inX1_changeSetting_X1 (by decide) (by decide +kernel) rfl dX1_changeSetting_16 ?_
    refine v_iload_n 1 dX1_changeSetting_19 rfl rfl ?_
    refine s_ld k hH (rfl) (by omega) dX1_changeSetting_20 ?_
    refine v_istore_n [(3, .int (c (6 + k))), (0, .ref (G b)), (1, .int (nI k)), (2, .int x)] dX1_changeSetting_21 rfl (by decide) rfl ?_
    refine v_aload_n 1 dX1_changeSetting_22 rfl rfl ?_
    refine u_getr (k := 6) (C := RX1) (T := TX1) (NF := 11) hH.n hH.s rfl rfl inX1_changeSetting_X1 (by decide) (by decide +kernel) rfl dX1_changeSetting_23 ?_
    refine v_iload_n 2 dX1_changeSetting_26 rfl rfl ?_
    refine v_iload_n 3 dX1_changeSetting_27 rfl rfl ?_
    refine s_st k hH (rfl) (by omega) dX1_changeSetting_28 ?_
    generalize hg1 : upd c (6 + k) (x) = g1
    refine v_iload_n 0 dX1_changeSetting_29 rfl rfl ?_
    refine v_iret rfl dX1_changeSetting_30 ⟨congrArg (fun z => some (Value.int z)) ?_, congrArg (φ shp) ?_⟩
    · rfl
    · subst hg1; rfl
  · skip
    omega
def MayC (c : Nat → Int32) (p : Nat) : Prop := c (58 + 10 * p + 5) = 0 ∧ ¬ c (58 + 10 * p) = 0 ∧ 0 < plc c p ∧ nI 5 ≤ c 0 - c (58 + 10 * p + 8)
set_option maxRecDepth 100000 in
theorem inX1_mayPass_X1 : ∀ w ∈ wsX10, w ∈ wsX1_mayPass := by decide +kernel
set_option maxRecDepth 100000 in
theorem inX1_mayPass_X4 : ∀ w ∈ wsX40, w ∈ wsX1_mayPass := by decide +kernel
set_option maxHeartbeats 4000000 in
set_option maxRecDepth 100000 in
/-- Hall.mayPass -/
theorem c_X1_mayPass (lu : Launch) (Dg : va_G) (E : Nat → ClassId) (N : Nat) (G : Nat → Nat) (shp : Nat → (Nat → Int32) → va_E) (σ : Nat → Nat → Int32) {b : Nat} (hH : HallS E G shp N b) (c : Nat → Int32) {T : Nat} (hI : Inv T c) {p : Nat} (hp : p < 2 ^ 31)  : CS lu yX1_mayPass wsX1_mayPass { frames := 2, cells := 0, slots := 0, locals := 43 } Dg E N G shp (hs σ b c) [.ref (G b), .int (nI p)] (some (.int (bi (p < tn (c 2) ∧ MayC c p)))) (hs σ b c) := by
  refine CS.of (cc := cX1_mayPass) (maxL := 2) (ret := (some .boolean)) (by decide) rfl (Nat.le_of_ble_eq_true rfl) ?_
  intro p_ e_ s_ m_ args_ below_ meth_ c_
  refine v_eq (pc' := 0) (st' := []) rfl rfl ?_
  refine v_loc [0, 1] [(0, .ref (G b)), (1, .int (nI p))] rfl ?_
  refine v_aload_n 0 dX1_mayPass_0 rfl rfl ?_
  refine v_iload_n 1 dX1_mayPass_1 rfl rfl ?_
  refine u_callVv [.int (nI p)] [] 1 (c_X1_stands lu Dg E N G shp σ hH c hI.np hI.np30 (p := p) (by omega)) (ci := 1) (C := RX1) (T := TX1) (NF := 11) hH.n hH.s rfl gX1_mayPass_X1_stands rfl rfl rfl (by decide +kernel) rfl ⟨Nat.le_of_ble_eq_true rfl, Nat.le_of_ble_eq_true rfl⟩ ⟨Nat.le_of_ble_eq_true rfl, Nat.le_of_ble_eq_true rfl⟩ (Nat.le_of_ble_eq_true rfl) rfl dX1_mayPass_2 ?_
  refine v_if_eqB 48 dX1_mayPass_5 rfl (fun h5 => ?_) (fun h5 => ?_)
  · skip
    refine v_iconst (nI 0) dX1_mayPass_48 (by decide +kernel) ?_
    refine v_zret rfl (by decide +kernel) dX1_mayPass_49 ⟨congrArg (fun z => some (Value.int z)) ?_, congrArg (φ shp) ?_⟩
    · exact bi_nf (fun q9 => by first | exact h5 ⟨q9.1, q9.2.1⟩ | exact q9.2.2.1 h16 | (have := q9.2.2.2.1; omega) | exact absurd q9.2.2.2.2 (Int32.not_le.mpr h41))
    · rfl
  · skip
    have hqp := hI.plcs h5.1 h5.2
    have hp30 := Nat.lt_of_lt_of_le h5.1 hI.np30
    refine v_aload_n 0 dX1_mayPass_8 rfl rfl ?_
    refine v_iload_n 1 dX1_mayPass_9 rfl rfl ?_
    refine u_callVv [.int (nI p)] [] 1 (c_X1_personOf lu Dg E N G shp σ hH c (k := p) (by omega)) (ci := 1) (C := RX1) (T := TX1) (NF := 11) hH.n hH.s rfl gX1_mayPass_X1_personOf rfl rfl rfl (by decide +kernel) rfl ⟨Nat.le_of_ble_eq_true rfl, Nat.le_of_ble_eq_true rfl⟩ ⟨Nat.le_of_ble_eq_true rfl, Nat.le_of_ble_eq_true rfl⟩ (Nat.le_of_ble_eq_true rfl) rfl dX1_mayPass_10 ?_
    refine p_geti (g := c) (k := 0) (q := p) (by omega) (c (58 + 10 * p)) hH rfl (pF0 _ _) inX1_mayPass_X4 (by decide) (by decide +kernel) rfl dX1_mayPass_13 ?_
    refine v_if_eq 48 dX1_mayPass_16 rfl (fun h16 => ?_) (fun h16 => ?_)
    · skip
      refine v_iconst (nI 0) dX1_mayPass_48 (by decide +kernel) ?_
      refine v_zret rfl (by decide +kernel) dX1_mayPass_49 ⟨congrArg (fun z => some (Value.int z)) ?_, congrArg (φ shp) ?_⟩
      · exact bi_nf (fun q9 => by first | exact h5 ⟨q9.1, q9.2.1⟩ | exact q9.2.2.1 h16 | (have := q9.2.2.2.1; omega) | exact absurd q9.2.2.2.2 (Int32.not_le.mpr h41))
      · rfl
    · skip
      refine v_aload_n 0 dX1_mayPass_19 rfl rfl ?_
      refine v_iload_n 1 dX1_mayPass_20 rfl rfl ?_
      refine u_callVv [.int (nI p)] [] 1 (c_X1_placeOf lu Dg E N G shp σ hH c hI (p := p) h5.1 h5.2) (ci := 1) (C := RX1) (T := TX1) (NF := 11) hH.n hH.s rfl gX1_mayPass_X1_placeOf rfl rfl rfl (by decide +kernel) rfl ⟨Nat.le_of_ble_eq_true rfl, Nat.le_of_ble_eq_true rfl⟩ ⟨Nat.le_of_ble_eq_true rfl, Nat.le_of_ble_eq_true rfl⟩ (Nat.le_of_ble_eq_true rfl) rfl dX1_mayPass_21 ?_
      refine v_if_leN 48 (by have := hI.len12 hqp.1; have := hqp.2.2.1; omega) dX1_mayPass_24 rfl (fun h24 => ?_) (fun h24 => ?_)
      · skip
        refine v_iconst (nI 0) dX1_mayPass_48 (by decide +kernel) ?_
        refine v_zret rfl (by decide +kernel) dX1_mayPass_49 ⟨congrArg (fun z => some (Value.int z)) ?_, congrArg (φ shp) ?_⟩
        · exact bi_nf (fun q9 => by first | exact h5 ⟨q9.1, q9.2.1⟩ | exact q9.2.2.1 h16 | (have := q9.2.2.2.1; omega) | exact absurd q9.2.2.2.2 (Int32.not_le.mpr h41))
        · rfl
      · skip
        refine v_aload_n 0 dX1_mayPass_27 rfl rfl ?_
        refine h_geti (g := c) (k := 2) (c 0) hH rfl (hF2 _) inX1_mayPass_X1 (by decide) (by decide +kernel) rfl dX1_mayPass_28 ?_
        refine v_aload_n 0 dX1_mayPass_31 rfl rfl ?_
        refine v_iload_n 1 dX1_mayPass_32 rfl rfl ?_
        refine u_callVv [.int (nI p)] [.int (c 0)] 1 (c_X1_personOf lu Dg E N G shp σ hH c (k := p) (by omega)) (ci := 1) (C := RX1) (T := TX1) (NF := 11) hH.n hH.s rfl gX1_mayPass_X1_personOf rfl rfl rfl (by decide +kernel) rfl ⟨Nat.le_of_ble_eq_true rfl, Nat.le_of_ble_eq_true rfl⟩ ⟨Nat.le_of_ble_eq_true rfl, Nat.le_of_ble_eq_true rfl⟩ (Nat.le_of_ble_eq_true rfl) rfl dX1_mayPass_33 ?_
        refine p_geti (g := c) (k := 8) (q := p) (by omega) (c (58 + 10 * p + 8)) hH rfl (pF8 _ _) inX1_mayPass_X4 (by decide) (by decide +kernel) rfl dX1_mayPass_36 ?_
        refine v_isub dX1_mayPass_39 ?_
        refine v_iconst (nI 5) dX1_mayPass_40 (by decide +kernel) ?_
        refine v_icmp_lt 48 dX1_mayPass_41 rfl (fun h41 => ?_) (fun h41 => ?_)
        · skip
          refine v_iconst (nI 0) dX1_mayPass_48 (by decide +kernel) ?_
          refine v_zret rfl (by decide +kernel) dX1_mayPass_49 ⟨congrArg (fun z => some (Value.int z)) ?_, congrArg (φ shp) ?_⟩
          · exact bi_nf (fun q9 => by first | exact h5 ⟨q9.1, q9.2.1⟩ | exact q9.2.2.1 h16 | (have := q9.2.2.2.1; omega) | exact absurd q9.2.2.2.2 (Int32.not_le.mpr h41))
          · rfl
        · skip
          refine v_iconst (nI 1) dX1_mayPass_44 (by decide +kernel) ?_
          refine v_goto 49 dX1_mayPass_45 rfl ?_
          refine v_zret rfl (by decide +kernel) dX1_mayPass_49 ⟨congrArg (fun z => some (Value.int z)) ?_, congrArg (φ shp) ?_⟩
          · exact bi_nt ⟨h5.1, h5.2, h16, h24, Int32.not_lt.mp h41⟩
          · rfl
