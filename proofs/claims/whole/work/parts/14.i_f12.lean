set_option maxHeartbeats 4000000 in
set_option maxRecDepth 100000 in
/-- Day.takeCommand, no letter of the five -/
theorem c_X0_takeCommand_n (lu : Launch) (Dg : va_G) (E : Nat → ClassId) (N : Nat) (G : Nat → Nat) (shp : Nat → (Nat → Int32) → va_E) (σ : Nat → Nat → Int32) {x : Nat} (hX : DayS E G shp N x)  {lz : Nat} (hl : σ x 1 = nI lz) (h100 : lz ≤ 100) {p : Nat} (hp : p < 2 ^ 18) (q99 : ¬ chrT (σ (x + 1)) lz p = nI 99) (q103 : ¬ chrT (σ (x + 1)) lz p = nI 103) (q106 : ¬ chrT (σ (x + 1)) lz p = nI 106) (q116 : ¬ chrT (σ (x + 1)) lz p = nI 116) (q120 : ¬ chrT (σ (x + 1)) lz p = nI 120)  : CS lu yX0_takeCommand wsX0_takeCommand { frames := 3, cells := 0, slots := 0, locals := 64 } Dg E N G shp (st2 σ x 2 (nI p)) [.ref (G x)] (some (.int (bi False))) (st2 σ x 2 (nI p)) := by
  refine CS.of (cc := cX0_takeCommand) (maxL := 1) (ret := (some .boolean)) (by decide) rfl (Nat.le_of_ble_eq_true rfl) ?_
  intro p_ e_ s_ m_ args_ below_ meth_ c_
  refine v_eq (pc' := 0) (st' := []) rfl rfl ?_
  refine v_loc [0] [(0, .ref (G x))] rfl ?_
  refine v_aload_n 0 dX0_takeCommand_0 rfl rfl ?_
  refine v_aload_n 0 dX0_takeCommand_1 rfl rfl ?_
  refine u_geti (k := 2) (C := RX0) (T := TX0) (NF := 3) hX.n hX.2.1 rfl rfl inX0_takeCommand_X0 (by decide) (by decide +kernel) rfl dX0_takeCommand_2 ?_
  refine v_topi (nI p) (st2_same _ _ _ _) ?_
  refine u_callVv [.int (nI p)] [] 1 (c_X0_charAt lu Dg E N G shp (st2 σ x 2 (nI p)) hX (lz := lz) (by rw [st2_eq, if_neg (by omega)]; exact hl) h100 (p := p) (by omega)) (ci := 0) (C := RX0) (T := TX0) (NF := 3) hX.n hX.2.1 rfl gX0_takeCommand_X0_charAt rfl rfl rfl (by decide +kernel) rfl ⟨Nat.le_of_ble_eq_true rfl, Nat.le_of_ble_eq_true rfl⟩ ⟨Nat.le_of_ble_eq_true rfl, Nat.le_of_ble_eq_true rfl⟩ (Nat.le_of_ble_eq_true rfl) rfl dX0_takeCommand_5 ?_
  refine v_topi (chrT (σ (x + 1)) lz p) (by rw [st2_row σ (by omega)]) ?_
  have e99 : ¬ (chrT (σ (x + 1)) lz p).toInt = 99 := fun e => q99 (Int32.toInt_inj.mp (by rw [nI_toInt (n := 99) (by omega)]; omega))
  have e103 : ¬ (chrT (σ (x + 1)) lz p).toInt = 103 := fun e => q103 (Int32.toInt_inj.mp (by rw [nI_toInt (n := 103) (by omega)]; omega))
  have e106 : ¬ (chrT (σ (x + 1)) lz p).toInt = 106 := fun e => q106 (Int32.toInt_inj.mp (by rw [nI_toInt (n := 106) (by omega)]; omega))
  have e116 : ¬ (chrT (σ (x + 1)) lz p).toInt = 116 := fun e => q116 (Int32.toInt_inj.mp (by rw [nI_toInt (n := 116) (by omega)]; omega))
  have e120 : ¬ (chrT (σ (x + 1)) lz p).toInt = 120 := fun e => q120 (Int32.toInt_inj.mp (by rw [nI_toInt (n := 120) (by omega)]; omega))
  refine v_lookup (off := 198) 206 dX0_takeCommand_8 (by decide +kernel) (by simp [Op.lookupswitch.offset, e99, e103, e106, e116, e120, Ne.symm]) (by decide +kernel) ?_
  refine v_iconst (nI 0) dX0_takeCommand_206 (by decide +kernel) ?_
  refine v_zret rfl (by decide +kernel) dX0_takeCommand_207 ⟨congrArg (fun z => some (Value.int z)) ?_, congrArg (φ shp) ?_⟩
  · exact bi_nf (fun z9 => z9)
  · rfl

/-- a command -/
noncomputable def cmdB (t : Nat → Int32) (lz p : Nat) : Prop := ic (chrT t lz p = nI 99) (tkB t lz (nI 48) (nI 50) (p + 1) ∧ tkB t lz (nI 48) (nI 50) (p + 1 + 1)) (ic (chrT t lz p = nI 103) (persB t lz (p + 1)) (ic (chrT t lz p = nI 106) (persB t lz (p + 1)) (ic (chrT t lz p = nI 116) (tkB t lz (nI 49) (nI 57) (p + 1)) (ic (chrT t lz p = nI 120) (persB t lz (p + 1) ∧ persB t lz (persN t lz (p + 1))) False))))
noncomputable def cmdN (t : Nat → Int32) (lz p : Nat) : Nat := ic (chrT t lz p = nI 99) (ic (tkB t lz (nI 48) (nI 50) (p + 1)) (tkN t lz (nI 48) (nI 50) (p + 1 + 1)) (p + 1)) (ic (chrT t lz p = nI 103) (persN t lz (p + 1)) (ic (chrT t lz p = nI 106) (persN t lz (p + 1)) (ic (chrT t lz p = nI 116) (tkN t lz (nI 49) (nI 57) (p + 1)) (ic (chrT t lz p = nI 120) (ic (persB t lz (p + 1)) (persN t lz (persN t lz (p + 1))) (persN t lz (p + 1))) p))))
theorem c_X0_takeCommand (lu : Launch) (Dg : va_G) (E : Nat → ClassId) (N : Nat) (G : Nat → Nat) (shp : Nat → (Nat → Int32) → va_E) (σ : Nat → Nat → Int32) {x : Nat} (hX : DayS E G shp N x) {lz : Nat} (hl : σ x 1 = nI lz) (h100 : lz ≤ 100) {p : Nat} (hp : p < 2 ^ 18) : CS lu yX0_takeCommand wsX0_takeCommand { frames := 3, cells := 0, slots := 0, locals := 64 } Dg E N G shp (st2 σ x 2 (nI p)) [.ref (G x)] (some (.int (bi (cmdB (σ (x + 1)) lz p)))) (st2 σ x 2 (nI (cmdN (σ (x + 1)) lz p))) := by
  unfold cmdB cmdN
  by_cases h1 : chrT (σ (x + 1)) lz p = nI 99
  · rw [ic_t h1, ic_t h1]; exact c_X0_takeCommand_c lu Dg E N G shp σ hX hl h100 hp h1
  rw [ic_f h1, ic_f h1]
  by_cases h2 : chrT (σ (x + 1)) lz p = nI 103
  · rw [ic_t h2, ic_t h2]; exact c_X0_takeCommand_g lu Dg E N G shp σ hX hl h100 hp h2
  rw [ic_f h2, ic_f h2]
  by_cases h3 : chrT (σ (x + 1)) lz p = nI 106
  · rw [ic_t h3, ic_t h3]; exact c_X0_takeCommand_j lu Dg E N G shp σ hX hl h100 hp h3
  rw [ic_f h3, ic_f h3]
  by_cases h4 : chrT (σ (x + 1)) lz p = nI 116
  · rw [ic_t h4, ic_t h4]; exact c_X0_takeCommand_t lu Dg E N G shp σ hX hl h100 hp h4
  rw [ic_f h4, ic_f h4]
  by_cases h5 : chrT (σ (x + 1)) lz p = nI 120
  · rw [ic_t h5, ic_t h5]; exact c_X0_takeCommand_x lu Dg E N G shp σ hX hl h100 hp h5
  rw [ic_f h5, ic_f h5]
  exact c_X0_takeCommand_n lu Dg E N G shp σ hX hl h100 hp h1 h2 h3 h4 h5