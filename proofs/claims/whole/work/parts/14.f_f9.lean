def persB (t : Nat → Int32) (lz p : Nat) : Prop := tkB t lz (nI 48) (nI 50) p ∧ tkB t lz (nI 48) (nI 57) (p + 1)
noncomputable def persN (t : Nat → Int32) (lz p : Nat) : Nat := ic (tkB t lz (nI 48) (nI 50) p) (tkN t lz (nI 48) (nI 57) (p + 1)) p
set_option maxHeartbeats 4000000 in
set_option maxRecDepth 100000 in
/-- Day.takePerson -/
theorem c_X0_takePerson (lu : Launch) (Dg : va_G) (E : Nat → ClassId) (N : Nat) (G : Nat → Nat) (shp : Nat → (Nat → Int32) → va_E) (σ : Nat → Nat → Int32) {x : Nat} (hX : DayS E G shp N x)  {lz : Nat} (hl : σ x 1 = nI lz) (h100 : lz ≤ 100) {p : Nat} (hp : p < 2 ^ 20)  : CS lu yX0_takePerson wsX0_takePerson { frames := 2, cells := 0, slots := 0, locals := 44 } Dg E N G shp (st2 σ x 2 (nI p)) [.ref (G x)] (some (.int (bi (persB (σ (x + 1)) lz p)))) (st2 σ x 2 (nI (persN (σ (x + 1)) lz p))) := by
  refine CS.of (cc := cX0_takePerson) (maxL := 1) (ret := (some .boolean)) (by decide) rfl (Nat.le_of_ble_eq_true rfl) ?_
  intro p_ e_ s_ m_ args_ below_ meth_ c_
  refine v_eq (pc' := 0) (st' := []) rfl rfl ?_
  refine v_loc [0] [(0, .ref (G x))] rfl ?_
  refine v_aload_n 0 dX0_takePerson_0 rfl rfl ?_
  refine v_bipush (nI 48) dX0_takePerson_1 (by decide +kernel) ?_
  refine v_bipush (nI 50) dX0_takePerson_3 (by decide +kernel) ?_
  refine u_callVv [.int (nI 48), .int (nI 50)] [] 2 (c_X0_take lu Dg E N G shp σ hX (lz := lz) hl h100 (p := p) (by omega) (nI 48) (nI 50)) (ci := 0) (C := RX0) (T := TX0) (NF := 3) hX.n hX.2.1 rfl gX0_takePerson_X0_take rfl rfl rfl (by decide +kernel) rfl ⟨Nat.le_of_ble_eq_true rfl, Nat.le_of_ble_eq_true rfl⟩ ⟨Nat.le_of_ble_eq_true rfl, Nat.le_of_ble_eq_true rfl⟩ (Nat.le_of_ble_eq_true rfl) rfl dX0_takePerson_5 ?_
  refine v_if_eqB 26 dX0_takePerson_8 rfl (fun h8 => ?_) (fun h8 => ?_)
  · skip
    refine v_σ (st2 σ x 2 (nI p)) (by unfold tkN; rw [ic_f h8]) ?_
    refine v_iconst (nI 0) dX0_takePerson_26 (by decide +kernel) ?_
    refine v_zret rfl (by decide +kernel) dX0_takePerson_27 ⟨congrArg (fun z => some (Value.int z)) ?_, congrArg (φ shp) ?_⟩
    · first | exact bi_nf (fun z9 => h8 z9.1) | exact bi_nf (fun z9 => h19 z9.2)
    · unfold persN; first | rw [ic_f h8] | rw [ic_t h8]
  · skip
    refine v_σ (st2 σ x 2 (nI (p + 1))) (by unfold tkN; rw [ic_t h8]) ?_
    refine v_aload_n 0 dX0_takePerson_11 rfl rfl ?_
    refine v_bipush (nI 48) dX0_takePerson_12 (by decide +kernel) ?_
    refine v_bipush (nI 57) dX0_takePerson_14 (by decide +kernel) ?_
    refine u_callVv [.int (nI 48), .int (nI 57)] [] 2 (c_X0_take lu Dg E N G shp σ hX (lz := lz) hl h100 (p := p + 1) (by omega) (nI 48) (nI 57)) (ci := 0) (C := RX0) (T := TX0) (NF := 3) hX.n hX.2.1 rfl gX0_takePerson_X0_take rfl rfl rfl (by decide +kernel) rfl ⟨Nat.le_of_ble_eq_true rfl, Nat.le_of_ble_eq_true rfl⟩ ⟨Nat.le_of_ble_eq_true rfl, Nat.le_of_ble_eq_true rfl⟩ (Nat.le_of_ble_eq_true rfl) rfl dX0_takePerson_16 ?_
    refine v_if_eqB 26 dX0_takePerson_19 rfl (fun h19 => ?_) (fun h19 => ?_)
    · skip
      refine v_iconst (nI 0) dX0_takePerson_26 (by decide +kernel) ?_
      refine v_zret rfl (by decide +kernel) dX0_takePerson_27 ⟨congrArg (fun z => some (Value.int z)) ?_, congrArg (φ shp) ?_⟩
      · first | exact bi_nf (fun z9 => h8 z9.1) | exact bi_nf (fun z9 => h19 z9.2)
      · unfold persN; first | rw [ic_f h8] | rw [ic_t h8]
    · skip
      refine v_iconst (nI 1) dX0_takePerson_22 (by decide +kernel) ?_
      refine v_goto 27 dX0_takePerson_23 rfl ?_
      refine v_zret rfl (by decide +kernel) dX0_takePerson_27 ⟨congrArg (fun z => some (Value.int z)) ?_, congrArg (φ shp) ?_⟩
      · exact bi_nt ⟨h8, h19⟩
      · unfold persN; rw [ic_t h8]
