set_option maxHeartbeats 4000000 in
set_option maxRecDepth 100000 in
/-- Day.doCommand_c -/
theorem c_X0_doCommand_c (lu : Launch) (Dg : va_G) (E : Nat → ClassId) (N : Nat) (G : Nat → Nat) (shp : Nat → (Nat → Int32) → va_E) (σ : Nat → Nat → Int32) (hS : StoodS E G shp N) (c : Nat → Int32)  {lz : Nat} (hl : σ 779 1 = nI lz) (h100 : lz ≤ 100) {p : Nat} (hp : p < 2 ^ 18) (q9 : chrT (σ 780) lz p = nI 99) {T : Nat} (hI : Inv T c) {yz kz : Nat} (hy : chrT (σ 780) lz (p + 2) - nI 48 = nI yz) (hk : chrT (σ 780) lz (p + 1) - nI 48 = nI kz) (hy2 : yz < 2 ^ 31) (hk2 : kz < 2 ^ 31)  : CS lu yX0_doCommand wsX0_doCommand { frames := 4, cells := 0, slots := 0, locals := 91 } Dg E N G shp (hs σ 1 c) [.ref (G 779), .ref (G 1), .int (nI p)] (some (.int (ic (comeFl c (nI yz) (nI kz) = 0) (nI (tn (c 2))) (-1)))) (hs σ 1 (ic (comeFl c (nI yz) (nI kz) = 0) (comesC c yz kz) c)) := by
  refine CS.of (cc := cX0_doCommand) (maxL := 3) (ret := (some .int)) (by decide) rfl (Nat.le_of_ble_eq_true rfl) ?_
  intro p_ e_ s_ m_ args_ below_ meth_ c_
  refine v_eq (pc' := 0) (st' := []) rfl rfl ?_
  refine v_loc [0, 1, 2] [(0, .ref (G 779)), (1, .ref (G 1)), (2, .int (nI p))] rfl ?_
  have e9 : hs σ 1 c (779 + 1) = σ 780 := hs_out (by omega)
  refine v_aload_n 0 dX0_doCommand_0 rfl rfl ?_
  refine v_iload_n 2 dX0_doCommand_1 rfl rfl ?_
  refine u_callVv [.int (nI p)] [] 1 (c_X0_charAt lu Dg E N G shp (hs σ 1 c) hS.d (lz := lz) (by rw [hs_out (by omega)]; exact hl) h100 (p := p) (by omega)) (ci := 0) (C := RX0) (T := TX0) (NF := 3) hS.d.n hS.d.2.1 rfl gX0_doCommand_X0_charAt rfl rfl rfl (by decide +kernel) rfl ⟨Nat.le_of_ble_eq_true rfl, Nat.le_of_ble_eq_true rfl⟩ ⟨Nat.le_of_ble_eq_true rfl, Nat.le_of_ble_eq_true rfl⟩ (Nat.le_of_ble_eq_true rfl) rfl dX0_doCommand_2 ?_
  refine v_topi (chrT (σ 780) lz p) (by rw [e9]) ?_
  refine v_topi (nI 99) (q9) ?_
  refine v_lookup (off := 51) 56 dX0_doCommand_5 (by decide +kernel) (by decide +kernel) (by decide +kernel) ?_
  refine v_aload_n 1 dX0_doCommand_56 rfl rfl ?_
  refine v_aload_n 0 dX0_doCommand_57 rfl rfl ?_
  refine v_iload_n 2 dX0_doCommand_58 rfl rfl ?_
  refine v_iconst (nI 2) dX0_doCommand_59 (by decide +kernel) ?_
  refine v_iaddN dX0_doCommand_60 ?_
  refine u_callVv [.int (nI (p + 2))] [.ref (G 1)] 1 (c_X0_digitAt lu Dg E N G shp (hs σ 1 c) hS.d (lz := lz) (by rw [hs_out (by omega)]; exact hl) h100 (p := p + 2) (by omega)) (ci := 0) (C := RX0) (T := TX0) (NF := 3) hS.d.n hS.d.2.1 rfl gX0_doCommand_X0_digitAt rfl rfl rfl (by decide +kernel) rfl ⟨Nat.le_of_ble_eq_true rfl, Nat.le_of_ble_eq_true rfl⟩ ⟨Nat.le_of_ble_eq_true rfl, Nat.le_of_ble_eq_true rfl⟩ (Nat.le_of_ble_eq_true rfl) rfl dX0_doCommand_61 ?_
  refine v_topi (nI yz) (by rw [e9]; exact hy) ?_
  refine v_aload_n 0 dX0_doCommand_64 rfl rfl ?_
  refine v_iload_n 2 dX0_doCommand_65 rfl rfl ?_
  refine v_iconst (nI 1) dX0_doCommand_66 (by decide +kernel) ?_
  refine v_iaddN dX0_doCommand_67 ?_
  refine u_callVv [.int (nI (p + 1))] [.int (nI yz), .ref (G 1)] 1 (c_X0_digitAt lu Dg E N G shp (hs σ 1 c) hS.d (lz := lz) (by rw [hs_out (by omega)]; exact hl) h100 (p := p + 1) (by omega)) (ci := 0) (C := RX0) (T := TX0) (NF := 3) hS.d.n hS.d.2.1 rfl gX0_doCommand_X0_digitAt rfl rfl rfl (by decide +kernel) rfl ⟨Nat.le_of_ble_eq_true rfl, Nat.le_of_ble_eq_true rfl⟩ ⟨Nat.le_of_ble_eq_true rfl, Nat.le_of_ble_eq_true rfl⟩ (Nat.le_of_ble_eq_true rfl) rfl dX0_doCommand_68 ?_
  refine v_topi (nI kz) (by rw [e9]; exact hk) ?_
  refine u_callVv [.int (nI yz), .int (nI kz)] [] 2 (c_X1_enter lu Dg E N G shp σ hS.h c hI (y := yz) (k0 := kz) hy2 hk2) (ci := 1) (C := RX1) (T := TX1) (NF := 11) hS.h.n hS.h.s rfl gX0_doCommand_X1_enter rfl rfl rfl (by decide +kernel) rfl ⟨Nat.le_of_ble_eq_true rfl, Nat.le_of_ble_eq_true rfl⟩ ⟨Nat.le_of_ble_eq_true rfl, Nat.le_of_ble_eq_true rfl⟩ (Nat.le_of_ble_eq_true rfl) rfl dX0_doCommand_71 ?_
  refine v_iret rfl dX0_doCommand_74 ⟨congrArg (fun z => some (Value.int z)) ?_, congrArg (φ shp) ?_⟩
  · rfl
  · rfl

set_option maxHeartbeats 4000000 in
set_option maxRecDepth 100000 in
/-- Day.doCommand_g -/
theorem c_X0_doCommand_g (lu : Launch) (Dg : va_G) (E : Nat → ClassId) (N : Nat) (G : Nat → Nat) (shp : Nat → (Nat → Int32) → va_E) (σ : Nat → Nat → Int32) (hS : StoodS E G shp N) (c : Nat → Int32)  {lz : Nat} (hl : σ 779 1 = nI lz) (h100 : lz ≤ 100) {p : Nat} (hp : p < 2 ^ 18) (q9 : chrT (σ 780) lz p = nI 103) {T : Nat} (hI : Inv T c) {pz : Nat} (hz : nI 10 * (chrT (σ 780) lz (p + 1) - nI 48) + (chrT (σ 780) lz (p + 1 + 1) - nI 48) = nI pz) (hz2 : pz < 2 ^ 31)  : CS lu yX0_doCommand wsX0_doCommand { frames := 4, cells := 0, slots := 0, locals := 91 } Dg E N G shp (hs σ 1 c) [.ref (G 779), .ref (G 1), .int (nI p)] (some (.int (ic (pz < tn (c 2) ∧ c (58 + 10 * pz + 5) = 0) (c (58 + 10 * pz + 2)) (-1)))) (hs σ 1 (ic (pz < tn (c 2) ∧ c (58 + 10 * pz + 5) = 0) (goesS c pz) c)) := by
  refine CS.of (cc := cX0_doCommand) (maxL := 3) (ret := (some .int)) (by decide) rfl (Nat.le_of_ble_eq_true rfl) ?_
  intro p_ e_ s_ m_ args_ below_ meth_ c_
  refine v_eq (pc' := 0) (st' := []) rfl rfl ?_
  refine v_loc [0, 1, 2] [(0, .ref (G 779)), (1, .ref (G 1)), (2, .int (nI p))] rfl ?_
  have e9 : hs σ 1 c (779 + 1) = σ 780 := hs_out (by omega)
  refine v_aload_n 0 dX0_doCommand_0 rfl rfl ?_
  refine v_iload_n 2 dX0_doCommand_1 rfl rfl ?_
  refine u_callVv [.int (nI p)] [] 1 (c_X0_charAt lu Dg E N G shp (hs σ 1 c) hS.d (lz := lz) (by rw [hs_out (by omega)]; exact hl) h100 (p := p) (by omega)) (ci := 0) (C := RX0) (T := TX0) (NF := 3) hS.d.n hS.d.2.1 rfl gX0_doCommand_X0_charAt rfl rfl rfl (by decide +kernel) rfl ⟨Nat.le_of_ble_eq_true rfl, Nat.le_of_ble_eq_true rfl⟩ ⟨Nat.le_of_ble_eq_true rfl, Nat.le_of_ble_eq_true rfl⟩ (Nat.le_of_ble_eq_true rfl) rfl dX0_doCommand_2 ?_
  refine v_topi (chrT (σ 780) lz p) (by rw [e9]) ?_
  refine v_topi (nI 103) (q9) ?_
  refine v_lookup (off := 70) 75 dX0_doCommand_5 (by decide +kernel) (by decide +kernel) (by decide +kernel) ?_
  refine v_aload_n 1 dX0_doCommand_75 rfl rfl ?_
  refine v_aload_n 0 dX0_doCommand_76 rfl rfl ?_
  refine v_iload_n 2 dX0_doCommand_77 rfl rfl ?_
  refine v_iconst (nI 1) dX0_doCommand_78 (by decide +kernel) ?_
  refine v_iaddN dX0_doCommand_79 ?_
  refine u_callVv [.int (nI (p + 1))] [.ref (G 1)] 1 (c_X0_numberAt lu Dg E N G shp (hs σ 1 c) hS.d (lz := lz) (by rw [hs_out (by omega)]; exact hl) h100 (p := p + 1) (by omega)) (ci := 0) (C := RX0) (T := TX0) (NF := 3) hS.d.n hS.d.2.1 rfl gX0_doCommand_X0_numberAt rfl rfl rfl (by decide +kernel) rfl ⟨Nat.le_of_ble_eq_true rfl, Nat.le_of_ble_eq_true rfl⟩ ⟨Nat.le_of_ble_eq_true rfl, Nat.le_of_ble_eq_true rfl⟩ (Nat.le_of_ble_eq_true rfl) rfl dX0_doCommand_80 ?_
  refine v_topi (nI pz) (by rw [e9]; exact hz) ?_
  refine u_callVv [.int (nI pz)] [] 1 (c_X1_leave lu Dg E N G shp σ hS.h c hI (p := pz) hz2) (ci := 1) (C := RX1) (T := TX1) (NF := 11) hS.h.n hS.h.s rfl gX0_doCommand_X1_leave rfl rfl rfl (by decide +kernel) rfl ⟨Nat.le_of_ble_eq_true rfl, Nat.le_of_ble_eq_true rfl⟩ ⟨Nat.le_of_ble_eq_true rfl, Nat.le_of_ble_eq_true rfl⟩ (Nat.le_of_ble_eq_true rfl) rfl dX0_doCommand_83 ?_
  refine v_iret rfl dX0_doCommand_86 ⟨congrArg (fun z => some (Value.int z)) ?_, congrArg (φ shp) ?_⟩
  · rfl
  · rfl

set_option maxHeartbeats 4000000 in
set_option maxRecDepth 100000 in
/-- Day.doCommand_x -/
theorem c_X0_doCommand_x (lu : Launch) (Dg : va_G) (E : Nat → ClassId) (N : Nat) (G : Nat → Nat) (shp : Nat → (Nat → Int32) → va_E) (σ : Nat → Nat → Int32) (hS : StoodS E G shp N) (c : Nat → Int32)  {lz : Nat} (hl : σ 779 1 = nI lz) (h100 : lz ≤ 100) {p : Nat} (hp : p < 2 ^ 18) (q9 : chrT (σ 780) lz p = nI 120) {T : Nat} (hI : Inv T c) {pz qz : Nat} (hz : nI 10 * (chrT (σ 780) lz (p + 1) - nI 48) + (chrT (σ 780) lz (p + 1 + 1) - nI 48) = nI pz) (hw : nI 10 * (chrT (σ 780) lz (p + 3) - nI 48) + (chrT (σ 780) lz (p + 3 + 1) - nI 48) = nI qz) (hz2 : pz < 2 ^ 31) (hw2 : qz < 2 ^ 31)  : CS lu yX0_doCommand wsX0_doCommand { frames := 4, cells := 0, slots := 0, locals := 91 } Dg E N G shp (hs σ 1 c) [.ref (G 779), .ref (G 1), .int (nI p)] (some (.int (ic (pz < tn (c 2) ∧ qz < tn (c 2) ∧ MayX c pz qz) (nI (plc c pz - plc c qz) * c 8) (-1)))) (hs σ 1 (ic (pz < tn (c 2) ∧ qz < tn (c 2) ∧ MayX c pz qz) (exchS c pz qz) c)) := by
  refine CS.of (cc := cX0_doCommand) (maxL := 3) (ret := (some .int)) (by decide) rfl (Nat.le_of_ble_eq_true rfl) ?_
  intro p_ e_ s_ m_ args_ below_ meth_ c_
  refine v_eq (pc' := 0) (st' := []) rfl rfl ?_
  refine v_loc [0, 1, 2] [(0, .ref (G 779)), (1, .ref (G 1)), (2, .int (nI p))] rfl ?_
  have e9 : hs σ 1 c (779 + 1) = σ 780 := hs_out (by omega)
  refine v_aload_n 0 dX0_doCommand_0 rfl rfl ?_
  refine v_iload_n 2 dX0_doCommand_1 rfl rfl ?_
  refine u_callVv [.int (nI p)] [] 1 (c_X0_charAt lu Dg E N G shp (hs σ 1 c) hS.d (lz := lz) (by rw [hs_out (by omega)]; exact hl) h100 (p := p) (by omega)) (ci := 0) (C := RX0) (T := TX0) (NF := 3) hS.d.n hS.d.2.1 rfl gX0_doCommand_X0_charAt rfl rfl rfl (by decide +kernel) rfl ⟨Nat.le_of_ble_eq_true rfl, Nat.le_of_ble_eq_true rfl⟩ ⟨Nat.le_of_ble_eq_true rfl, Nat.le_of_ble_eq_true rfl⟩ (Nat.le_of_ble_eq_true rfl) rfl dX0_doCommand_2 ?_
  refine v_topi (chrT (σ 780) lz p) (by rw [e9]) ?_
  refine v_topi (nI 120) (q9) ?_
  refine v_lookup (off := 82) 87 dX0_doCommand_5 (by decide +kernel) (by decide +kernel) (by decide +kernel) ?_
  refine v_aload_n 1 dX0_doCommand_87 rfl rfl ?_
  refine v_aload_n 0 dX0_doCommand_88 rfl rfl ?_
  refine v_iload_n 2 dX0_doCommand_89 rfl rfl ?_
  refine v_iconst (nI 1) dX0_doCommand_90 (by decide +kernel) ?_
  refine v_iaddN dX0_doCommand_91 ?_
  refine u_callVv [.int (nI (p + 1))] [.ref (G 1)] 1 (c_X0_numberAt lu Dg E N G shp (hs σ 1 c) hS.d (lz := lz) (by rw [hs_out (by omega)]; exact hl) h100 (p := p + 1) (by omega)) (ci := 0) (C := RX0) (T := TX0) (NF := 3) hS.d.n hS.d.2.1 rfl gX0_doCommand_X0_numberAt rfl rfl rfl (by decide +kernel) rfl ⟨Nat.le_of_ble_eq_true rfl, Nat.le_of_ble_eq_true rfl⟩ ⟨Nat.le_of_ble_eq_true rfl, Nat.le_of_ble_eq_true rfl⟩ (Nat.le_of_ble_eq_true rfl) rfl dX0_doCommand_92 ?_
  refine v_topi (nI pz) (by rw [e9]; exact hz) ?_
  refine v_aload_n 0 dX0_doCommand_95 rfl rfl ?_
  refine v_iload_n 2 dX0_doCommand_96 rfl rfl ?_
  refine v_iconst (nI 3) dX0_doCommand_97 (by decide +kernel) ?_
  refine v_iaddN dX0_doCommand_98 ?_
  refine u_callVv [.int (nI (p + 3))] [.int (nI pz), .ref (G 1)] 1 (c_X0_numberAt lu Dg E N G shp (hs σ 1 c) hS.d (lz := lz) (by rw [hs_out (by omega)]; exact hl) h100 (p := p + 3) (by omega)) (ci := 0) (C := RX0) (T := TX0) (NF := 3) hS.d.n hS.d.2.1 rfl gX0_doCommand_X0_numberAt rfl rfl rfl (by decide +kernel) rfl ⟨Nat.le_of_ble_eq_true rfl, Nat.le_of_ble_eq_true rfl⟩ ⟨Nat.le_of_ble_eq_true rfl, Nat.le_of_ble_eq_true rfl⟩ (Nat.le_of_ble_eq_true rfl) rfl dX0_doCommand_99 ?_
  refine v_topi (nI qz) (by rw [e9]; exact hw) ?_
  refine u_callVv [.int (nI pz), .int (nI qz)] [] 2 (c_X1_trade lu Dg E N G shp σ hS.h c hI (p := pz) (q := qz) hz2 hw2) (ci := 1) (C := RX1) (T := TX1) (NF := 11) hS.h.n hS.h.s rfl gX0_doCommand_X1_trade rfl rfl rfl (by decide +kernel) rfl ⟨Nat.le_of_ble_eq_true rfl, Nat.le_of_ble_eq_true rfl⟩ ⟨Nat.le_of_ble_eq_true rfl, Nat.le_of_ble_eq_true rfl⟩ (Nat.le_of_ble_eq_true rfl) rfl dX0_doCommand_102 ?_
  refine v_iret rfl dX0_doCommand_105 ⟨congrArg (fun z => some (Value.int z)) ?_, congrArg (φ shp) ?_⟩
  · rfl
  · rfl

set_option maxHeartbeats 4000000 in
set_option maxRecDepth 100000 in
/-- Day.doCommand_j -/
theorem c_X0_doCommand_j (lu : Launch) (Dg : va_G) (E : Nat → ClassId) (N : Nat) (G : Nat → Nat) (shp : Nat → (Nat → Int32) → va_E) (σ : Nat → Nat → Int32) (hS : StoodS E G shp N) (c : Nat → Int32)  {lz : Nat} (hl : σ 779 1 = nI lz) (h100 : lz ≤ 100) {p : Nat} (hp : p < 2 ^ 18) (q9 : chrT (σ 780) lz p = nI 106) {T : Nat} (hI : Inv T c) {pz : Nat} (hz : nI 10 * (chrT (σ 780) lz (p + 1) - nI 48) + (chrT (σ 780) lz (p + 1 + 1) - nI 48) = nI pz) (hz2 : pz < 2 ^ 31)  : CS lu yX0_doCommand wsX0_doCommand { frames := 4, cells := 0, slots := 0, locals := 91 } Dg E N G shp (hs σ 1 c) [.ref (G 779), .ref (G 1), .int (nI p)] (some (.int (ic (pz < tn (c 2) ∧ MayC c pz) (nI (jsteps c pz)) (-1)))) (hs σ 1 (ic (pz < tn (c 2) ∧ MayC c pz) (jumpsS c pz) c)) := by
  refine CS.of (cc := cX0_doCommand) (maxL := 3) (ret := (some .int)) (by decide) rfl (Nat.le_of_ble_eq_true rfl) ?_
  intro p_ e_ s_ m_ args_ below_ meth_ c_
  refine v_eq (pc' := 0) (st' := []) rfl rfl ?_
  refine v_loc [0, 1, 2] [(0, .ref (G 779)), (1, .ref (G 1)), (2, .int (nI p))] rfl ?_
  have e9 : hs σ 1 c (779 + 1) = σ 780 := hs_out (by omega)
  refine v_aload_n 0 dX0_doCommand_0 rfl rfl ?_
  refine v_iload_n 2 dX0_doCommand_1 rfl rfl ?_
  refine u_callVv [.int (nI p)] [] 1 (c_X0_charAt lu Dg E N G shp (hs σ 1 c) hS.d (lz := lz) (by rw [hs_out (by omega)]; exact hl) h100 (p := p) (by omega)) (ci := 0) (C := RX0) (T := TX0) (NF := 3) hS.d.n hS.d.2.1 rfl gX0_doCommand_X0_charAt rfl rfl rfl (by decide +kernel) rfl ⟨Nat.le_of_ble_eq_true rfl, Nat.le_of_ble_eq_true rfl⟩ ⟨Nat.le_of_ble_eq_true rfl, Nat.le_of_ble_eq_true rfl⟩ (Nat.le_of_ble_eq_true rfl) rfl dX0_doCommand_2 ?_
  refine v_topi (chrT (σ 780) lz p) (by rw [e9]) ?_
  refine v_topi (nI 106) (q9) ?_
  refine v_lookup (off := 101) 106 dX0_doCommand_5 (by decide +kernel) (by decide +kernel) (by decide +kernel) ?_
  refine v_aload_n 1 dX0_doCommand_106 rfl rfl ?_
  refine v_aload_n 0 dX0_doCommand_107 rfl rfl ?_
  refine v_iload_n 2 dX0_doCommand_108 rfl rfl ?_
  refine v_iconst (nI 1) dX0_doCommand_109 (by decide +kernel) ?_
  refine v_iaddN dX0_doCommand_110 ?_
  refine u_callVv [.int (nI (p + 1))] [.ref (G 1)] 1 (c_X0_numberAt lu Dg E N G shp (hs σ 1 c) hS.d (lz := lz) (by rw [hs_out (by omega)]; exact hl) h100 (p := p + 1) (by omega)) (ci := 0) (C := RX0) (T := TX0) (NF := 3) hS.d.n hS.d.2.1 rfl gX0_doCommand_X0_numberAt rfl rfl rfl (by decide +kernel) rfl ⟨Nat.le_of_ble_eq_true rfl, Nat.le_of_ble_eq_true rfl⟩ ⟨Nat.le_of_ble_eq_true rfl, Nat.le_of_ble_eq_true rfl⟩ (Nat.le_of_ble_eq_true rfl) rfl dX0_doCommand_111 ?_
  refine v_topi (nI pz) (by rw [e9]; exact hz) ?_
  refine u_callVv [.int (nI pz)] [] 1 (c_X1_pass lu Dg E N G shp σ hS.h c hI (p := pz) hz2) (ci := 1) (C := RX1) (T := TX1) (NF := 11) hS.h.n hS.h.s rfl gX0_doCommand_X1_pass rfl rfl rfl (by decide +kernel) rfl ⟨Nat.le_of_ble_eq_true rfl, Nat.le_of_ble_eq_true rfl⟩ ⟨Nat.le_of_ble_eq_true rfl, Nat.le_of_ble_eq_true rfl⟩ (Nat.le_of_ble_eq_true rfl) rfl dX0_doCommand_114 ?_
  refine v_iret rfl dX0_doCommand_117 ⟨congrArg (fun z => some (Value.int z)) ?_, congrArg (φ shp) ?_⟩
  · rfl
  · rfl

set_option maxHeartbeats 4000000 in
set_option maxRecDepth 100000 in
/-- Day.doCommand_t -/
theorem c_X0_doCommand_t (lu : Launch) (Dg : va_G) (E : Nat → ClassId) (N : Nat) (G : Nat → Nat) (shp : Nat → (Nat → Int32) → va_E) (σ : Nat → Nat → Int32) (hS : StoodS E G shp N) (c : Nat → Int32)  {lz : Nat} (hl : σ 779 1 = nI lz) (h100 : lz ≤ 100) {p : Nat} (hp : p < 2 ^ 18) (q9 : chrT (σ 780) lz p = nI 116) {T : Nat} (hI : Inv T c) (hT : T ≤ 999900) {kz : Nat} (hk : chrT (σ 780) lz (p + 1) - nI 48 = nI kz) (hk2 : kz ≤ 9)  : CS lu yX0_doCommand wsX0_doCommand { frames := 4, cells := 0, slots := 0, locals := 91 } Dg E N G shp (hs σ 1 c) [.ref (G 779), .ref (G 1), .int (nI p)] (some (.int (nI (goByN c kz)))) (hs σ 1 (goByS c kz)) := by
  refine CS.of (cc := cX0_doCommand) (maxL := 3) (ret := (some .int)) (by decide) rfl (Nat.le_of_ble_eq_true rfl) ?_
  intro p_ e_ s_ m_ args_ below_ meth_ c_
  refine v_eq (pc' := 0) (st' := []) rfl rfl ?_
  refine v_loc [0, 1, 2] [(0, .ref (G 779)), (1, .ref (G 1)), (2, .int (nI p))] rfl ?_
  have e9 : hs σ 1 c (779 + 1) = σ 780 := hs_out (by omega)
  refine v_aload_n 0 dX0_doCommand_0 rfl rfl ?_
  refine v_iload_n 2 dX0_doCommand_1 rfl rfl ?_
  refine u_callVv [.int (nI p)] [] 1 (c_X0_charAt lu Dg E N G shp (hs σ 1 c) hS.d (lz := lz) (by rw [hs_out (by omega)]; exact hl) h100 (p := p) (by omega)) (ci := 0) (C := RX0) (T := TX0) (NF := 3) hS.d.n hS.d.2.1 rfl gX0_doCommand_X0_charAt rfl rfl rfl (by decide +kernel) rfl ⟨Nat.le_of_ble_eq_true rfl, Nat.le_of_ble_eq_true rfl⟩ ⟨Nat.le_of_ble_eq_true rfl, Nat.le_of_ble_eq_true rfl⟩ (Nat.le_of_ble_eq_true rfl) rfl dX0_doCommand_2 ?_
  refine v_topi (chrT (σ 780) lz p) (by rw [e9]) ?_
  refine v_topi (nI 116) (q9) ?_
  refine v_lookup (off := 113) 118 dX0_doCommand_5 (by decide +kernel) (by decide +kernel) (by decide +kernel) ?_
  refine v_aload_n 1 dX0_doCommand_118 rfl rfl ?_
  refine v_aload_n 0 dX0_doCommand_119 rfl rfl ?_
  refine v_iload_n 2 dX0_doCommand_120 rfl rfl ?_
  refine v_iconst (nI 1) dX0_doCommand_121 (by decide +kernel) ?_
  refine v_iaddN dX0_doCommand_122 ?_
  refine u_callVv [.int (nI (p + 1))] [.ref (G 1)] 1 (c_X0_digitAt lu Dg E N G shp (hs σ 1 c) hS.d (lz := lz) (by rw [hs_out (by omega)]; exact hl) h100 (p := p + 1) (by omega)) (ci := 0) (C := RX0) (T := TX0) (NF := 3) hS.d.n hS.d.2.1 rfl gX0_doCommand_X0_digitAt rfl rfl rfl (by decide +kernel) rfl ⟨Nat.le_of_ble_eq_true rfl, Nat.le_of_ble_eq_true rfl⟩ ⟨Nat.le_of_ble_eq_true rfl, Nat.le_of_ble_eq_true rfl⟩ (Nat.le_of_ble_eq_true rfl) rfl dX0_doCommand_123 ?_
  refine v_topi (nI kz) (by rw [e9]; exact hk) ?_
  refine u_callVv [.int (nI kz)] [] 1 (c_X1_letPass lu Dg E N G shp σ hS.h c kz (by omega) (fun k9 hk9 => ⟨_, hI.goBy (n := k9) (by omega)⟩)) (ci := 1) (C := RX1) (T := TX1) (NF := 11) hS.h.n hS.h.s rfl gX0_doCommand_X1_letPass rfl rfl rfl (by decide +kernel) rfl ⟨Nat.le_of_ble_eq_true rfl, Nat.le_of_ble_eq_true rfl⟩ ⟨Nat.le_of_ble_eq_true rfl, Nat.le_of_ble_eq_true rfl⟩ (Nat.le_of_ble_eq_true rfl) rfl dX0_doCommand_126 ?_
  refine v_iret rfl dX0_doCommand_129 ⟨congrArg (fun z => some (Value.int z)) ?_, congrArg (φ shp) ?_⟩
  · rfl
  · rfl
