theorem dvG_z {g k : Nat} : dvG g k = 0 ↔ g < 100000 ^ k := by
  have hp : 0 < 100000 ^ k := Nat.pow_pos (by omega)
  rw [dvG_eq]
  constructor
  · intro h9
    have h1 := Nat.div_add_mod g (100000 ^ k)
    have h2 := Nat.mod_lt g hp
    rw [h9, Nat.mul_zero, Nat.zero_add] at h1
    omega
  · intro h9; exact Nat.div_eq_of_lt h9
set_option maxHeartbeats 4000000 in
set_option maxRecDepth 100000 in
/-- runScript_1 -/
theorem c_X6_runScript_1 (lu : Launch) (Dg : va_G) (E : Nat → ClassId) (N : Nat) (G : Nat → Nat) (shp : Nat → (Nat → Int32) → va_E) (σ : Nat → Nat → Int32) {b : Nat} (hM : ModS E G shp N b) (f0 f1 f2 f3 f4 f5 f6 : Nat → Int32)  (x : Int32) (hx : ¬ (nI 1 ≤ x ∧ x ≤ nI 3)) (z : Int64)  : CS lu yX6_runScript wsX6_runScript { frames := 7, cells := 0, slots := 0, locals := 161 } Dg E N G shp (mk7 σ b f0 f1 f2 f3 f4 f5 f6) [.ref (G b), .int x, .long z] (some (.int (nI 0))) (mk7 σ b (upd f0 0 (nI 1)) f1 f2 f3 f4 f5 f6) := by
  refine CS.of (cc := cX6_runScript) (maxL := 11) (ret := (some .int)) (by decide) rfl (Nat.le_of_ble_eq_true rfl) ?_
  intro p_ e_ s_ m_ args_ below_ meth_ c_
  refine v_eq (pc' := 0) (st' := []) rfl rfl ?_
  refine v_loc [0, 1, 2] [(0, .ref (G b)), (1, .int x), (2, .long z)] rfl ?_
  refine v_iload_n 1 dX6_runScript_0 rfl rfl ?_
  refine v_iconst (nI 1) dX6_runScript_1 (by decide +kernel) ?_
  refine v_icmp_ne 11 dX6_runScript_2 rfl (fun h2 => ?_) (fun h2 => ?_)
  · skip
    refine v_iload_n 1 dX6_runScript_11 rfl rfl ?_
    refine v_iconst (nI 2) dX6_runScript_12 (by decide +kernel) ?_
    refine v_icmp_ne 22 dX6_runScript_13 rfl (fun h13 => ?_) (fun h13 => ?_)
    · skip
      refine v_ldc2 (v := (999999999999999)) (by decide +kernel) dX6_runScript_22 ?_
      refine v_st (st' := [.long (lN 999999999999999)]) (by first | rfl | decide +kernel) ?_
      refine v_lstore [(4, .long (lN 999999999999999)), (0, .ref (G b)), (1, .int x), (2, .long z)] dX6_runScript_25 (by decide) rfl ?_
      refine v_aload_n 1 dX6_runScript_27 rfl rfl ?_
      refine v_iload_n 2 dX6_runScript_28 rfl rfl ?_
      refine v_iconst (nI 1) dX6_runScript_29 (by decide +kernel) ?_
      refine v_iconst (nI 3) dX6_runScript_30 (by decide +kernel) ?_
      refine u_callSv [.int x, .int (nI 1), .int (nI 3)] [.ref (G b)] 3 (c_X6_in lu Dg E N G shp (mk7 σ b f0 f1 f2 f3 f4 f5 f6) (x) (nI 1) (nI 3)) gX6_runScript_X6_in rfl rfl rfl (by decide +kernel) rfl ⟨Nat.le_of_ble_eq_true rfl, Nat.le_of_ble_eq_true rfl⟩ ⟨Nat.le_of_ble_eq_true rfl, Nat.le_of_ble_eq_true rfl⟩ (Nat.le_of_ble_eq_true rfl) rfl dX6_runScript_31 ?_
      refine v_if_eqB 54 dX6_runScript_34 rfl (fun h34 => ?_) (fun h34 => ?_)
      · skip
        refine v_iconst (nI 1) dX6_runScript_54 (by decide +kernel) ?_
        refine u_callVv [.int (nI 1)] [] 1 (c_X6_holds lu Dg E N G shp σ hM f0 f1 f2 f3 f4 f5 f6 1 (by omega)) (ci := 6) (C := RX6) (T := TX6) (NF := 13) hM.n hM.s rfl gX6_runScript_X6_holds rfl rfl rfl (by decide +kernel) rfl ⟨Nat.le_of_ble_eq_true rfl, Nat.le_of_ble_eq_true rfl⟩ ⟨Nat.le_of_ble_eq_true rfl, Nat.le_of_ble_eq_true rfl⟩ (Nat.le_of_ble_eq_true rfl) rfl dX6_runScript_55 ?_
        refine v_if_neB 63 dX6_runScript_58 rfl (fun h58 => ?_) (fun h58 => ?_)
        · skip
          exact absurd h58 (by decide)
        · skip
          refine v_iconst (nI 0) dX6_runScript_61 (by decide +kernel) ?_
          refine v_iret rfl dX6_runScript_62 ⟨congrArg (fun z => some (Value.int z)) ?_, congrArg (φ shp) ?_⟩
          · rfl
          · rfl
      · skip
        exact absurd h34 hx
    · skip
      exact absurd (by rw [h13]; decide) hx
  · skip
    exact absurd (by rw [h2]; decide) hx

set_option maxHeartbeats 4000000 in
set_option maxRecDepth 100000 in
/-- runScript_2_1 -/
theorem c_X6_runScript_2_1 (lu : Launch) (Dg : va_G) (E : Nat → ClassId) (N : Nat) (G : Nat → Nat) (shp : Nat → (Nat → Int32) → va_E) (σ : Nat → Nat → Int32) {b : Nat} (hM : ModS E G shp N b) (f0 f1 f2 f3 f4 f5 f6 : Nat → Int32)  (z : Int64) (hz0 : z < 0)  : CS lu yX6_runScript wsX6_runScript { frames := 7, cells := 0, slots := 0, locals := 161 } Dg E N G shp (mk7 σ b f0 f1 f2 f3 f4 f5 f6) [.ref (G b), .int (nI 1), .long z] (some (.int (nI 0))) (mk7 σ b (upd f0 0 (nI 1)) f1 f2 f3 f4 f5 f6) := by
  refine CS.of (cc := cX6_runScript) (maxL := 11) (ret := (some .int)) (by decide) rfl (Nat.le_of_ble_eq_true rfl) ?_
  intro p_ e_ s_ m_ args_ below_ meth_ c_
  refine v_eq (pc' := 0) (st' := []) rfl rfl ?_
  refine v_loc [0, 1, 2] [(0, .ref (G b)), (1, .int (nI 1)), (2, .long z)] rfl ?_
  refine v_iload_n 1 dX6_runScript_0 rfl rfl ?_
  refine v_iconst (nI 1) dX6_runScript_1 (by decide +kernel) ?_
  refine v_icmp_neN 11 (by omega) (by omega) dX6_runScript_2 rfl (fun h2 => ?_) (fun h2 => ?_)
  · skip
    omega
  · skip
    refine v_ldc2 (v := (99999)) (by decide +kernel) dX6_runScript_5 ?_
    refine v_st (st' := [.long (lN 99999)]) (by first | rfl | decide +kernel) ?_
    refine v_goto 25 dX6_runScript_8 rfl ?_
    refine v_lstore [(4, .long (lN 99999)), (0, .ref (G b)), (1, .int (nI 1)), (2, .long z)] dX6_runScript_25 (by decide) rfl ?_
    refine v_aload_n 1 dX6_runScript_27 rfl rfl ?_
    refine v_iload_n 2 dX6_runScript_28 rfl rfl ?_
    refine v_iconst (nI 1) dX6_runScript_29 (by decide +kernel) ?_
    refine v_iconst (nI 3) dX6_runScript_30 (by decide +kernel) ?_
    refine u_callSv [.int (nI 1), .int (nI 1), .int (nI 3)] [.ref (G b)] 3 (c_X6_in lu Dg E N G shp (mk7 σ b f0 f1 f2 f3 f4 f5 f6) (nI 1) (nI 1) (nI 3)) gX6_runScript_X6_in rfl rfl rfl (by decide +kernel) rfl ⟨Nat.le_of_ble_eq_true rfl, Nat.le_of_ble_eq_true rfl⟩ ⟨Nat.le_of_ble_eq_true rfl, Nat.le_of_ble_eq_true rfl⟩ (Nat.le_of_ble_eq_true rfl) rfl dX6_runScript_31 ?_
    refine v_if_eqB 54 dX6_runScript_34 rfl (fun h34 => ?_) (fun h34 => ?_)
    · skip
      exact absurd ⟨(nI_leI (by omega) (by omega)).mpr (by omega), (nI_leI (by omega) (by omega)).mpr (by omega)⟩ h34
    · skip
      refine v_lload_n 3 dX6_runScript_37 rfl rfl ?_
      refine v_lconst (lN 0) dX6_runScript_38 (by decide +kernel) ?_
      refine v_lcmp dX6_runScript_39 ?_
      refine v_if_lt 54 dX6_runScript_40 rfl (fun h40 => ?_) (fun h40 => ?_)
      · skip
        refine v_iconst (nI 1) dX6_runScript_54 (by decide +kernel) ?_
        refine u_callVv [.int (nI 1)] [] 1 (c_X6_holds lu Dg E N G shp σ hM f0 f1 f2 f3 f4 f5 f6 1 (by omega)) (ci := 6) (C := RX6) (T := TX6) (NF := 13) hM.n hM.s rfl gX6_runScript_X6_holds rfl rfl rfl (by decide +kernel) rfl ⟨Nat.le_of_ble_eq_true rfl, Nat.le_of_ble_eq_true rfl⟩ ⟨Nat.le_of_ble_eq_true rfl, Nat.le_of_ble_eq_true rfl⟩ (Nat.le_of_ble_eq_true rfl) rfl dX6_runScript_55 ?_
        refine v_if_neB 63 dX6_runScript_58 rfl (fun h58 => ?_) (fun h58 => ?_)
        · skip
          exact absurd h58 (by decide)
        · skip
          refine v_iconst (nI 0) dX6_runScript_61 (by decide +kernel) ?_
          refine v_iret rfl dX6_runScript_62 ⟨congrArg (fun z => some (Value.int z)) ?_, congrArg (φ shp) ?_⟩
          · rfl
          · rfl
      · skip
        exact absurd ((lg_cmp_lt _ _).mpr hz0) h40

set_option maxHeartbeats 4000000 in
set_option maxRecDepth 100000 in
/-- runScript_3_1 -/
theorem c_X6_runScript_3_1 (lu : Launch) (Dg : va_G) (E : Nat → ClassId) (N : Nat) (G : Nat → Nat) (shp : Nat → (Nat → Int32) → va_E) (σ : Nat → Nat → Int32) {b : Nat} (hM : ModS E G shp N b) (f0 f1 f2 f3 f4 f5 f6 : Nat → Int32)  {g : Nat} (hz : g < 2 ^ 63) (hq : ¬ dvG g 1 = 0)  : CS lu yX6_runScript wsX6_runScript { frames := 7, cells := 0, slots := 0, locals := 161 } Dg E N G shp (mk7 σ b f0 f1 f2 f3 f4 f5 f6) [.ref (G b), .int (nI 1), .long (lN g)] (some (.int (nI 0))) (mk7 σ b (upd f0 0 (nI 1)) f1 f2 f3 f4 f5 f6) := by
  refine CS.of (cc := cX6_runScript) (maxL := 11) (ret := (some .int)) (by decide) rfl (Nat.le_of_ble_eq_true rfl) ?_
  intro p_ e_ s_ m_ args_ below_ meth_ c_
  refine v_eq (pc' := 0) (st' := []) rfl rfl ?_
  refine v_loc [0, 1, 2] [(0, .ref (G b)), (1, .int (nI 1)), (2, .long (lN g))] rfl ?_
  refine v_iload_n 1 dX6_runScript_0 rfl rfl ?_
  refine v_iconst (nI 1) dX6_runScript_1 (by decide +kernel) ?_
  refine v_icmp_neN 11 (by omega) (by omega) dX6_runScript_2 rfl (fun h2 => ?_) (fun h2 => ?_)
  · skip
    omega
  · skip
    refine v_ldc2 (v := (99999)) (by decide +kernel) dX6_runScript_5 ?_
    refine v_st (st' := [.long (lN 99999)]) (by first | rfl | decide +kernel) ?_
    refine v_goto 25 dX6_runScript_8 rfl ?_
    refine v_lstore [(4, .long (lN 99999)), (0, .ref (G b)), (1, .int (nI 1)), (2, .long (lN g))] dX6_runScript_25 (by decide) rfl ?_
    refine v_aload_n 1 dX6_runScript_27 rfl rfl ?_
    refine v_iload_n 2 dX6_runScript_28 rfl rfl ?_
    refine v_iconst (nI 1) dX6_runScript_29 (by decide +kernel) ?_
    refine v_iconst (nI 3) dX6_runScript_30 (by decide +kernel) ?_
    refine u_callSv [.int (nI 1), .int (nI 1), .int (nI 3)] [.ref (G b)] 3 (c_X6_in lu Dg E N G shp (mk7 σ b f0 f1 f2 f3 f4 f5 f6) (nI 1) (nI 1) (nI 3)) gX6_runScript_X6_in rfl rfl rfl (by decide +kernel) rfl ⟨Nat.le_of_ble_eq_true rfl, Nat.le_of_ble_eq_true rfl⟩ ⟨Nat.le_of_ble_eq_true rfl, Nat.le_of_ble_eq_true rfl⟩ (Nat.le_of_ble_eq_true rfl) rfl dX6_runScript_31 ?_
    refine v_if_eqB 54 dX6_runScript_34 rfl (fun h34 => ?_) (fun h34 => ?_)
    · skip
      exact absurd ⟨(nI_leI (by omega) (by omega)).mpr (by omega), (nI_leI (by omega) (by omega)).mpr (by omega)⟩ h34
    · skip
      refine v_lload_n 3 dX6_runScript_37 rfl rfl ?_
      refine v_lconst (lN 0) dX6_runScript_38 (by decide +kernel) ?_
      refine v_lcmp dX6_runScript_39 ?_
      refine v_if_lt 54 dX6_runScript_40 rfl (fun h40 => ?_) (fun h40 => ?_)
      · skip
        exact absurd ((lg_cmp_lt _ _).mp h40) (lN_nn hz)
      · skip
        refine v_lload_n 3 dX6_runScript_43 rfl rfl ?_
        refine v_lload 0 dX6_runScript_44 rfl ?_
        refine v_lcmp dX6_runScript_46 ?_
        refine v_if_gt 54 dX6_runScript_47 rfl (fun h47 => ?_) (fun h47 => ?_)
        · skip
          refine v_iconst (nI 1) dX6_runScript_54 (by decide +kernel) ?_
          refine u_callVv [.int (nI 1)] [] 1 (c_X6_holds lu Dg E N G shp σ hM f0 f1 f2 f3 f4 f5 f6 1 (by omega)) (ci := 6) (C := RX6) (T := TX6) (NF := 13) hM.n hM.s rfl gX6_runScript_X6_holds rfl rfl rfl (by decide +kernel) rfl ⟨Nat.le_of_ble_eq_true rfl, Nat.le_of_ble_eq_true rfl⟩ ⟨Nat.le_of_ble_eq_true rfl, Nat.le_of_ble_eq_true rfl⟩ (Nat.le_of_ble_eq_true rfl) rfl dX6_runScript_55 ?_
          refine v_if_neB 63 dX6_runScript_58 rfl (fun h58 => ?_) (fun h58 => ?_)
          · skip
            exact absurd h58 (by decide)
          · skip
            refine v_iconst (nI 0) dX6_runScript_61 (by decide +kernel) ?_
            refine v_iret rfl dX6_runScript_62 ⟨congrArg (fun z => some (Value.int z)) ?_, congrArg (φ shp) ?_⟩
            · rfl
            · rfl
        · skip
          exact absurd ((lg_cmp_gt _ _).mpr ((pk_lLT (by omega) hz).mpr (by have z9 : ¬ g < 100000 := fun q9 => hq (dvG_z.mpr q9); omega))) h47

set_option maxHeartbeats 4000000 in
set_option maxRecDepth 100000 in
/-- runScript_0_1 -/
theorem c_X6_runScript_0_1 (lu : Launch) (Dg : va_G) (E : Nat → ClassId) (N : Nat) (G : Nat → Nat) (shp : Nat → (Nat → Int32) → va_E) (σ : Nat → Nat → Int32) {b : Nat} (hM : ModS E G shp N b) (f0 f1 f2 f3 f4 f5 f6 : Nat → Int32) {T : Nat} (hI : Inv T f1) (hT : T ≤ 999000) (hpd : f0 3 = nI 0) {g : Nat} (hz : g < 2 ^ 63) (hq : dvG g 1 = 0)  : CX lu yX6_runScript wsX6_runScript { frames := 7, cells := 0, slots := 0, locals := 161 } Dg E N G shp (mk7 σ b f0 f1 f2 f3 f4 f5 f6) [.ref (G b), .int (nI 1), .long (lN g)] (fun v' τ => v' = some (.int ((scrB f1 1 g 1).2)) ∧ ∃ g2, (∀ i, i < 358 * 0 → g2 i = f2 i) ∧ τ = mk7 σ b (upd f0 0 (nI 0)) f1 g2 f3 f4 f5 f6) := by
  refine CX.of (cc := cX6_runScript) (maxL := 11) (ret := (some .int)) (by decide) rfl (Nat.le_of_ble_eq_true rfl) ?_
  intro p_ e_ s_ m_ args_ below_ meth_ c_
  refine v_eq (pc' := 0) (st' := []) rfl rfl ?_
  refine v_loc [0, 1, 2] [(0, .ref (G b)), (1, .int (nI 1)), (2, .long (lN g))] rfl ?_
  have hu : upd (upd (upd f0 0 (nI 0)) 3 (nI (0 + 1))) 3 (nI 0) = upd f0 0 (nI 0) := upd_self (by rw [upd_ap, if_neg (by omega)]; exact hpd)
  refine v_iload_n 1 dX6_runScript_0 rfl rfl ?_
  refine v_iconst (nI 1) dX6_runScript_1 (by decide +kernel) ?_
  refine v_icmp_neN 11 (by omega) (by omega) dX6_runScript_2 rfl (fun h2 => ?_) (fun h2 => ?_)
  · skip
    omega
  · skip
    refine v_ldc2 (v := (99999)) (by decide +kernel) dX6_runScript_5 ?_
    refine v_st (st' := [.long (lN 99999)]) (by first | rfl | decide +kernel) ?_
    refine v_goto 25 dX6_runScript_8 rfl ?_
    refine v_lstore [(4, .long (lN 99999)), (0, .ref (G b)), (1, .int (nI 1)), (2, .long (lN g))] dX6_runScript_25 (by decide) rfl ?_
    refine v_aload_n 1 dX6_runScript_27 rfl rfl ?_
    refine v_iload_n 2 dX6_runScript_28 rfl rfl ?_
    refine v_iconst (nI 1) dX6_runScript_29 (by decide +kernel) ?_
    refine v_iconst (nI 3) dX6_runScript_30 (by decide +kernel) ?_
    refine u_callSv [.int (nI 1), .int (nI 1), .int (nI 3)] [.ref (G b)] 3 (c_X6_in lu Dg E N G shp (mk7 σ b f0 f1 f2 f3 f4 f5 f6) (nI 1) (nI 1) (nI 3)) gX6_runScript_X6_in rfl rfl rfl (by decide +kernel) rfl ⟨Nat.le_of_ble_eq_true rfl, Nat.le_of_ble_eq_true rfl⟩ ⟨Nat.le_of_ble_eq_true rfl, Nat.le_of_ble_eq_true rfl⟩ (Nat.le_of_ble_eq_true rfl) rfl dX6_runScript_31 ?_
    refine v_if_eqB 54 dX6_runScript_34 rfl (fun h34 => ?_) (fun h34 => ?_)
    · skip
      exact absurd ⟨(nI_leI (by omega) (by omega)).mpr (by omega), (nI_leI (by omega) (by omega)).mpr (by omega)⟩ h34
    · skip
      refine v_lload_n 3 dX6_runScript_37 rfl rfl ?_
      refine v_lconst (lN 0) dX6_runScript_38 (by decide +kernel) ?_
      refine v_lcmp dX6_runScript_39 ?_
      refine v_if_lt 54 dX6_runScript_40 rfl (fun h40 => ?_) (fun h40 => ?_)
      · skip
        exact absurd ((lg_cmp_lt _ _).mp h40) (lN_nn hz)
      · skip
        refine v_lload_n 3 dX6_runScript_43 rfl rfl ?_
        refine v_lload 0 dX6_runScript_44 rfl ?_
        refine v_lcmp dX6_runScript_46 ?_
        refine v_if_gt 54 dX6_runScript_47 rfl (fun h47 => ?_) (fun h47 => ?_)
        · skip
          exact absurd ((pk_lLT (by omega) hz).mp ((lg_cmp_gt _ _).mp h47)) (by have z9 : g < 100000 := dvG_z.mp hq; omega)
        · skip
          refine v_iconst (nI 0) dX6_runScript_50 (by decide +kernel) ?_
          refine v_goto 55 dX6_runScript_51 rfl ?_
          refine u_callVv [.int (nI 0)] [] 1 (c_X6_holds lu Dg E N G shp σ hM f0 f1 f2 f3 f4 f5 f6 0 (by omega)) (ci := 6) (C := RX6) (T := TX6) (NF := 13) hM.n hM.s rfl gX6_runScript_X6_holds rfl rfl rfl (by decide +kernel) rfl ⟨Nat.le_of_ble_eq_true rfl, Nat.le_of_ble_eq_true rfl⟩ ⟨Nat.le_of_ble_eq_true rfl, Nat.le_of_ble_eq_true rfl⟩ (Nat.le_of_ble_eq_true rfl) rfl dX6_runScript_55 ?_
          refine v_if_neB 63 dX6_runScript_58 rfl (fun h58 => ?_) (fun h58 => ?_)
          · skip
            refine v_aload_n 1 dX6_runScript_63 rfl rfl ?_
            refine u_callVn [] [] 0 (c_X6_push lu Dg E N G shp σ hM (upd f0 0 (nI 0)) f1 f2 f3 f4 f5 f6 (pd := 0) (by rw [upd_ap, if_neg (by omega)]; exact hpd) (by omega)) (ci := 6) (C := RX6) (T := TX6) (NF := 13) hM.n hM.s rfl gX6_runScript_X6_push rfl rfl rfl (by decide +kernel) rfl ⟨Nat.le_of_ble_eq_true rfl, Nat.le_of_ble_eq_true rfl⟩ ⟨Nat.le_of_ble_eq_true rfl, Nat.le_of_ble_eq_true rfl⟩ (Nat.le_of_ble_eq_true rfl) rfl dX6_runScript_64 ?_
            refine v_σ (mk7 σ b (upd (upd f0 0 (nI 0)) 3 (nI (0 + 1))) ((scrB f1 1 g 0).1) (cpF f1 f2 0 (358 * (0)) 358) f3 f4 f5 f6) (congrArg (fun z9 => mk7 σ b (upd (upd f0 0 (nI 0)) 3 (nI (0 + 1))) z9 (cpF f1 f2 0 (358 * (0)) 358) f3 f4 f5 f6) (rfl)) ?_
            refine v_iconst ((-1)) dX6_runScript_67 (by decide +kernel) ?_
            refine v_istore [(6, .int ((-1))), (4, .long (lN 99999)), (0, .ref (G b)), (1, .int (nI 1)), (2, .long (lN g))] dX6_runScript_68 (by decide) rfl ?_
            refine v_locv 6 ((scrB f1 1 g 0).2) 0 [(6, .int ((scrB f1 1 g 0).2)), (4, .long (lN 99999)), (0, .ref (G b)), (1, .int (nI 1)), (2, .long (lN g))] rfl rfl rfl ?_
            refine v_iconst (nI 0) dX6_runScript_70 (by decide +kernel) ?_
            refine v_istore [(7, .int (nI 0)), (6, .int ((scrB f1 1 g 0).2)), (4, .long (lN 99999)), (0, .ref (G b)), (1, .int (nI 1)), (2, .long (lN g))] dX6_runScript_71 (by decide) rfl ?_
            refine v_loc [0, 1, 5, 4, 3] [(7, .int (nI 0)), (6, .int ((scrB f1 1 g 0).2)), (2, .long (lN g)), (1, .int (nI 1)), (0, .ref (G b))] rfl ?_
            refine u_loop1 (fun n (j : Nat) => j + n = 1) (fun (j : Nat) => mk7 σ b (upd (upd f0 0 (nI 0)) 3 (nI (0 + 1))) ((scrB f1 1 g j).1) (cpF f1 f2 0 (358 * (0)) 358) f3 f4 f5 f6) (fun (j : Nat) => [(7, .int (nI j)), (6, .int ((scrB f1 1 g j).2)), (2, .long (lN g)), (1, .int (nI 1)), (0, .ref (G b))]) (1) 0 ((by omega)) ?_
            intro n j hL ih
            refine v_iload 0 dX6_runScript_73 rfl ?_
            refine v_iload_n 3 dX6_runScript_75 rfl rfl ?_
            refine v_icmp_geN 142 (by omega) (by omega) dX6_runScript_76 rfl (fun h76 => ?_) (fun h76 => ?_)
            · skip
              have hjk9 : j = 1 := by omega
              have ek9 : scrB f1 1 g 1 = (scrB f1 1 g j) := by rw [hjk9]
              have ek8 := congrArg Prod.snd ek9
              refine v_σ (mk7 σ b (upd (upd f0 0 (nI 0)) 3 (nI (0 + 1))) ((scrB f1 1 g 1).1) (cpF f1 f2 0 (358 * (0)) 358) f3 f4 f5 f6) (congrArg (fun z9 => mk7 σ b (upd (upd f0 0 (nI 0)) 3 (nI (0 + 1))) z9 (cpF f1 f2 0 (358 * (0)) 358) f3 f4 f5 f6) ((by rw [ek9]))) ?_
              refine v_locv 6 ((scrB f1 1 g 1).2) 1 [(7, .int (nI j)), (6, .int ((scrB f1 1 g 1).2)), (2, .long (lN g)), (1, .int (nI 1)), (0, .ref (G b))] rfl (ek8.symm) rfl ?_
              refine v_aload_n 4 dX6_runScript_142 rfl rfl ?_
              refine u_callVn [] [] 0 ((c_X6_pop lu Dg E N G shp σ hM (upd (upd f0 0 (nI 0)) 3 (nI (0 + 1))) ((scrB f1 1 g 1).1) (cpF f1 f2 0 (358 * (0)) 358) f3 f4 f5 f6 (pd := 0) (by rw [upd_ap, if_pos rfl]) (by omega) f1 (fun i hi => by rw [cpF_in _ _ (by omega) (by omega)]; congr 1; omega)).to rfl (congrArg (fun z9 => mk7 σ b z9 f1 (cpF f1 f2 0 (358 * (0)) 358) f3 f4 f5 f6) hu)) (ci := 6) (C := RX6) (T := TX6) (NF := 13) hM.n hM.s rfl gX6_runScript_X6_pop rfl rfl rfl (by decide +kernel) rfl ⟨Nat.le_of_ble_eq_true rfl, Nat.le_of_ble_eq_true rfl⟩ ⟨Nat.le_of_ble_eq_true rfl, Nat.le_of_ble_eq_true rfl⟩ (Nat.le_of_ble_eq_true rfl) rfl dX6_runScript_143 ?_
              refine v_iload 1 dX6_runScript_146 rfl ?_
              refine v_iret rfl dX6_runScript_148 ⟨mk7 σ b (upd f0 0 (nI 0)) f1 (cpF f1 f2 0 (358 * (0)) 358) f3 f4 f5 f6, rfl, ⟨rfl, _, fun i hi => by omega, rfl⟩⟩
            · skip
              have i1 := Inv.scr hI (n := 1) (g := g) (k := j) (by omega)
              refine v_iload 1 dX6_runScript_79 rfl ?_
              refine v_iconst ((-1)) dX6_runScript_81 (by decide +kernel) ?_
              refine v_icmp_ne 142 dX6_runScript_82 rfl (fun h82 => ?_) (fun h82 => ?_)
              · skip
                have ek9 : scrB f1 1 g 1 = (scrB f1 1 g j) := scrB_stay (by omega) h82
                have ek8 := congrArg Prod.snd ek9
                refine v_σ (mk7 σ b (upd (upd f0 0 (nI 0)) 3 (nI (0 + 1))) ((scrB f1 1 g 1).1) (cpF f1 f2 0 (358 * (0)) 358) f3 f4 f5 f6) (congrArg (fun z9 => mk7 σ b (upd (upd f0 0 (nI 0)) 3 (nI (0 + 1))) z9 (cpF f1 f2 0 (358 * (0)) 358) f3 f4 f5 f6) ((by rw [ek9]))) ?_
                refine v_locv 6 ((scrB f1 1 g 1).2) 1 [(7, .int (nI j)), (6, .int ((scrB f1 1 g 1).2)), (2, .long (lN g)), (1, .int (nI 1)), (0, .ref (G b))] rfl (ek8.symm) rfl ?_
                refine v_aload_n 4 dX6_runScript_142 rfl rfl ?_
                refine u_callVn [] [] 0 ((c_X6_pop lu Dg E N G shp σ hM (upd (upd f0 0 (nI 0)) 3 (nI (0 + 1))) ((scrB f1 1 g 1).1) (cpF f1 f2 0 (358 * (0)) 358) f3 f4 f5 f6 (pd := 0) (by rw [upd_ap, if_pos rfl]) (by omega) f1 (fun i hi => by rw [cpF_in _ _ (by omega) (by omega)]; congr 1; omega)).to rfl (congrArg (fun z9 => mk7 σ b z9 f1 (cpF f1 f2 0 (358 * (0)) 358) f3 f4 f5 f6) hu)) (ci := 6) (C := RX6) (T := TX6) (NF := 13) hM.n hM.s rfl gX6_runScript_X6_pop rfl rfl rfl (by decide +kernel) rfl ⟨Nat.le_of_ble_eq_true rfl, Nat.le_of_ble_eq_true rfl⟩ ⟨Nat.le_of_ble_eq_true rfl, Nat.le_of_ble_eq_true rfl⟩ (Nat.le_of_ble_eq_true rfl) rfl dX6_runScript_143 ?_
                refine v_iload 1 dX6_runScript_146 rfl ?_
                refine v_iret rfl dX6_runScript_148 ⟨mk7 σ b (upd f0 0 (nI 0)) f1 (cpF f1 f2 0 (358 * (0)) 358) f3 f4 f5 f6, rfl, ⟨rfl, _, fun i hi => by omega, rfl⟩⟩
              · skip
                have es : scrB f1 1 g (j + 1) = (succS (scrB f1 1 g j).1 (grp 1 g j), ic (succP (scrB f1 1 g j).1 (grp 1 g j)) (-1) (nI j)) := by
                  show scrStep _ _ (scrB f1 1 g j) = _
                  unfold scrStep
                  rw [ic_t h82]
                refine v_lload_n 2 dX6_runScript_85 rfl rfl ?_
                refine v_lstore [(8, .long (lN g)), (7, .int (nI j)), (6, .int ((scrB f1 1 g j).2)), (2, .long (lN g)), (1, .int (nI 1)), (0, .ref (G b))] dX6_runScript_86 (by decide) rfl ?_
                refine v_iload 1 dX6_runScript_88 rfl ?_
                refine v_iconst (nI 1) dX6_runScript_90 (by decide +kernel) ?_
                refine v_iaddN dX6_runScript_91 ?_
                refine v_istore [(10, .int (nI (j + 1))), (8, .long (lN g)), (7, .int (nI j)), (6, .int ((scrB f1 1 g j).2)), (2, .long (lN g)), (1, .int (nI 1)), (0, .ref (G b))] dX6_runScript_92 (by decide) rfl ?_
                refine v_loc [0, 1, 2, 3, 4, 5, 6] [(10, .int (nI (j + 1))), (8, .long (lN g)), (7, .int (nI j)), (6, .int ((scrB f1 1 g j).2)), (2, .long (lN g)), (1, .int (nI 1)), (0, .ref (G b))] rfl ?_
                refine u_loop1 (fun n2 (t : Nat) => j + 1 + t + n2 = 1) (fun (t : Nat) => mk7 σ b (upd (upd f0 0 (nI 0)) 3 (nI (0 + 1))) ((scrB f1 1 g j).1) (cpF f1 f2 0 (358 * (0)) 358) f3 f4 f5 f6) (fun (t : Nat) => [(10, .int (nI (j + 1 + t))), (8, .long (lN (dvG g t))), (7, .int (nI j)), (6, .int ((scrB f1 1 g j).2)), (2, .long (lN g)), (1, .int (nI 1)), (0, .ref (G b))]) (1 - 1 - j) 0 ((by omega)) ?_
                intro n2 t hN ih2
                refine v_iload 0 dX6_runScript_94 rfl ?_
                refine v_iload_n 5 dX6_runScript_96 rfl rfl ?_
                refine v_icmp_geN 114 (by omega) (by omega) dX6_runScript_97 rfl (fun h97 => ?_) (fun h97 => ?_)
                · skip
                  have hmk9 : t = 1 - 1 - j := by omega
                  refine v_aload_n 6 dX6_runScript_114 rfl rfl ?_
                  refine v_lload 1 dX6_runScript_115 rfl ?_
                  refine v_ldc2 (v := (100000)) (by decide +kernel) dX6_runScript_117 ?_
                  refine v_st (st' := [.long (lN 100000), .long (lN (dvG g t)), .ref (G b)]) (by first | rfl | decide +kernel) ?_
                  refine v_lrem dX6_runScript_120 (by decide +kernel) ?_
                  refine v_st (st' := [.long (lN (grp 1 g j)), .ref (G b)]) (by rw [pk_lRem (dvG_lt hz _) (by omega) (by omega), dvG_eq, hmk9]; rfl) ?_
                  refine v_l2i dX6_runScript_121 ?_
                  refine v_topi (nI (grp 1 g j)) (lN_i _) ?_
                  refine u_callVv [.int (nI (grp 1 g j))] [] 1 (c_X6_succeeds lu Dg E N G shp σ hM (upd (upd f0 0 (nI 0)) 3 (nI (0 + 1))) ((scrB f1 1 g j).1) (cpF f1 f2 0 (358 * (0)) 358) f3 f4 f5 f6 i1 (g := grp 1 g j) (grp_lt 1 g j) (fun k9 hk9 => ⟨_, i1.goBy (n := k9) (by omega)⟩)) (ci := 6) (C := RX6) (T := TX6) (NF := 13) hM.n hM.s rfl gX6_runScript_X6_succeeds rfl rfl rfl (by decide +kernel) rfl ⟨Nat.le_of_ble_eq_true rfl, Nat.le_of_ble_eq_true rfl⟩ ⟨Nat.le_of_ble_eq_true rfl, Nat.le_of_ble_eq_true rfl⟩ (Nat.le_of_ble_eq_true rfl) rfl dX6_runScript_122 ?_
                  refine v_σ (mk7 σ b (upd (upd f0 0 (nI 0)) 3 (nI (0 + 1))) ((scrB f1 1 g (j + 1)).1) (cpF f1 f2 0 (358 * (0)) 358) f3 f4 f5 f6) (congrArg (fun z9 => mk7 σ b (upd (upd f0 0 (nI 0)) 3 (nI (0 + 1))) z9 (cpF f1 f2 0 (358 * (0)) 358) f3 f4 f5 f6) ((by rw [es]))) ?_
                  refine v_if_eqB 132 dX6_runScript_125 rfl (fun h125 => ?_) (fun h125 => ?_)
                  · skip
                    refine v_iload 2 dX6_runScript_132 rfl ?_
                    refine v_st (st' := [.int ((scrB f1 1 g (j + 1)).2)]) (by rw [es]; show [Value.int _] = [Value.int (ic _ _ _)]; rw [ic_f h125]) ?_
                    refine v_istore [(6, .int ((scrB f1 1 g (j + 1)).2)), (10, .int (nI (j + 1 + t))), (8, .long (lN (dvG g t))), (7, .int (nI j)), (2, .long (lN g)), (1, .int (nI 1)), (0, .ref (G b))] dX6_runScript_134 (by decide) rfl ?_
                    refine v_iincN 3 [(7, .int (nI (j + 1))), (6, .int ((scrB f1 1 g (j + 1)).2)), (10, .int (nI (j + 1 + t))), (8, .long (lN (dvG g t))), (2, .long (lN g)), (1, .int (nI 1)), (0, .ref (G b))] dX6_runScript_136 rfl (by decide) rfl ?_
                    refine v_goto 73 dX6_runScript_139 rfl ?_
                    refine v_loc [0, 1, 4, 5, 6] [(7, .int (nI (j + 1))), (6, .int ((scrB f1 1 g (j + 1)).2)), (2, .long (lN g)), (1, .int (nI 1)), (0, .ref (G b))] rfl ?_
                    exact ih _ (j + 1) (show n - 1 < n by omega) (by omega)
                  · skip
                    refine v_iconst ((-1)) dX6_runScript_128 (by decide +kernel) ?_
                    refine v_goto 134 dX6_runScript_129 rfl ?_
                    refine v_st (st' := [.int ((scrB f1 1 g (j + 1)).2)]) (by rw [es]; show [Value.int _] = [Value.int (ic _ _ _)]; rw [ic_t h125]) ?_
                    refine v_istore [(6, .int ((scrB f1 1 g (j + 1)).2)), (10, .int (nI (j + 1 + t))), (8, .long (lN (dvG g t))), (7, .int (nI j)), (2, .long (lN g)), (1, .int (nI 1)), (0, .ref (G b))] dX6_runScript_134 (by decide) rfl ?_
                    refine v_iincN 3 [(7, .int (nI (j + 1))), (6, .int ((scrB f1 1 g (j + 1)).2)), (10, .int (nI (j + 1 + t))), (8, .long (lN (dvG g t))), (2, .long (lN g)), (1, .int (nI 1)), (0, .ref (G b))] dX6_runScript_136 rfl (by decide) rfl ?_
                    refine v_goto 73 dX6_runScript_139 rfl ?_
                    refine v_loc [0, 1, 4, 5, 6] [(7, .int (nI (j + 1))), (6, .int ((scrB f1 1 g (j + 1)).2)), (2, .long (lN g)), (1, .int (nI 1)), (0, .ref (G b))] rfl ?_
                    exact ih _ (j + 1) (show n - 1 < n by omega) (by omega)
                · skip
                  refine v_lload 1 dX6_runScript_100 rfl ?_
                  refine v_ldc2 (v := (100000)) (by decide +kernel) dX6_runScript_102 ?_
                  refine v_st (st' := [.long (lN 100000), .long (lN (dvG g t))]) (by first | rfl | decide +kernel) ?_
                  refine v_ldiv dX6_runScript_105 (by decide +kernel) ?_
                  refine v_st (st' := [.long (lN (dvG g (t + 1)))]) (by rw [pk_lDiv (dvG_lt hz _) (by omega) (by omega)]; rfl) ?_
                  refine v_lstore [(8, .long (lN (dvG g (t + 1)))), (10, .int (nI (j + 1 + t))), (7, .int (nI j)), (6, .int ((scrB f1 1 g j).2)), (2, .long (lN g)), (1, .int (nI 1)), (0, .ref (G b))] dX6_runScript_106 (by decide) rfl ?_
                  refine v_iincN 1 [(10, .int (nI (j + 1 + t + 1))), (8, .long (lN (dvG g (t + 1)))), (7, .int (nI j)), (6, .int ((scrB f1 1 g j).2)), (2, .long (lN g)), (1, .int (nI 1)), (0, .ref (G b))] dX6_runScript_108 rfl (by decide) rfl ?_
                  refine v_goto 94 dX6_runScript_111 rfl ?_
                  refine v_loc [0, 1, 2, 3, 4, 5, 6] [(10, .int (nI (j + 1 + t + 1))), (8, .long (lN (dvG g (t + 1)))), (7, .int (nI j)), (6, .int ((scrB f1 1 g j).2)), (2, .long (lN g)), (1, .int (nI 1)), (0, .ref (G b))] rfl ?_
                  exact ih2 _ (t + 1) (show n2 - 1 < n2 by omega) (by omega)
          · skip
            exact absurd rfl h58

set_option maxHeartbeats 4000000 in
set_option maxRecDepth 100000 in
/-- runScript_2_2 -/
theorem c_X6_runScript_2_2 (lu : Launch) (Dg : va_G) (E : Nat → ClassId) (N : Nat) (G : Nat → Nat) (shp : Nat → (Nat → Int32) → va_E) (σ : Nat → Nat → Int32) {b : Nat} (hM : ModS E G shp N b) (f0 f1 f2 f3 f4 f5 f6 : Nat → Int32)  (z : Int64) (hz0 : z < 0)  : CS lu yX6_runScript wsX6_runScript { frames := 7, cells := 0, slots := 0, locals := 161 } Dg E N G shp (mk7 σ b f0 f1 f2 f3 f4 f5 f6) [.ref (G b), .int (nI 2), .long z] (some (.int (nI 0))) (mk7 σ b (upd f0 0 (nI 1)) f1 f2 f3 f4 f5 f6) := by
  refine CS.of (cc := cX6_runScript) (maxL := 11) (ret := (some .int)) (by decide) rfl (Nat.le_of_ble_eq_true rfl) ?_
  intro p_ e_ s_ m_ args_ below_ meth_ c_
  refine v_eq (pc' := 0) (st' := []) rfl rfl ?_
  refine v_loc [0, 1, 2] [(0, .ref (G b)), (1, .int (nI 2)), (2, .long z)] rfl ?_
  refine v_iload_n 1 dX6_runScript_0 rfl rfl ?_
  refine v_iconst (nI 1) dX6_runScript_1 (by decide +kernel) ?_
  refine v_icmp_neN 11 (by omega) (by omega) dX6_runScript_2 rfl (fun h2 => ?_) (fun h2 => ?_)
  · skip
    refine v_iload_n 1 dX6_runScript_11 rfl rfl ?_
    refine v_iconst (nI 2) dX6_runScript_12 (by decide +kernel) ?_
    refine v_icmp_neN 22 (by omega) (by omega) dX6_runScript_13 rfl (fun h13 => ?_) (fun h13 => ?_)
    · skip
      omega
    · skip
      refine v_ldc2 (v := (9999999999)) (by decide +kernel) dX6_runScript_16 ?_
      refine v_st (st' := [.long (lN 9999999999)]) (by first | rfl | decide +kernel) ?_
      refine v_goto 25 dX6_runScript_19 rfl ?_
      refine v_lstore [(4, .long (lN 9999999999)), (0, .ref (G b)), (1, .int (nI 2)), (2, .long z)] dX6_runScript_25 (by decide) rfl ?_
      refine v_aload_n 1 dX6_runScript_27 rfl rfl ?_
      refine v_iload_n 2 dX6_runScript_28 rfl rfl ?_
      refine v_iconst (nI 1) dX6_runScript_29 (by decide +kernel) ?_
      refine v_iconst (nI 3) dX6_runScript_30 (by decide +kernel) ?_
      refine u_callSv [.int (nI 2), .int (nI 1), .int (nI 3)] [.ref (G b)] 3 (c_X6_in lu Dg E N G shp (mk7 σ b f0 f1 f2 f3 f4 f5 f6) (nI 2) (nI 1) (nI 3)) gX6_runScript_X6_in rfl rfl rfl (by decide +kernel) rfl ⟨Nat.le_of_ble_eq_true rfl, Nat.le_of_ble_eq_true rfl⟩ ⟨Nat.le_of_ble_eq_true rfl, Nat.le_of_ble_eq_true rfl⟩ (Nat.le_of_ble_eq_true rfl) rfl dX6_runScript_31 ?_
      refine v_if_eqB 54 dX6_runScript_34 rfl (fun h34 => ?_) (fun h34 => ?_)
      · skip
        exact absurd ⟨(nI_leI (by omega) (by omega)).mpr (by omega), (nI_leI (by omega) (by omega)).mpr (by omega)⟩ h34
      · skip
        refine v_lload_n 3 dX6_runScript_37 rfl rfl ?_
        refine v_lconst (lN 0) dX6_runScript_38 (by decide +kernel) ?_
        refine v_lcmp dX6_runScript_39 ?_
        refine v_if_lt 54 dX6_runScript_40 rfl (fun h40 => ?_) (fun h40 => ?_)
        · skip
          refine v_iconst (nI 1) dX6_runScript_54 (by decide +kernel) ?_
          refine u_callVv [.int (nI 1)] [] 1 (c_X6_holds lu Dg E N G shp σ hM f0 f1 f2 f3 f4 f5 f6 1 (by omega)) (ci := 6) (C := RX6) (T := TX6) (NF := 13) hM.n hM.s rfl gX6_runScript_X6_holds rfl rfl rfl (by decide +kernel) rfl ⟨Nat.le_of_ble_eq_true rfl, Nat.le_of_ble_eq_true rfl⟩ ⟨Nat.le_of_ble_eq_true rfl, Nat.le_of_ble_eq_true rfl⟩ (Nat.le_of_ble_eq_true rfl) rfl dX6_runScript_55 ?_
          refine v_if_neB 63 dX6_runScript_58 rfl (fun h58 => ?_) (fun h58 => ?_)
          · skip
            exact absurd h58 (by decide)
          · skip
            refine v_iconst (nI 0) dX6_runScript_61 (by decide +kernel) ?_
            refine v_iret rfl dX6_runScript_62 ⟨congrArg (fun z => some (Value.int z)) ?_, congrArg (φ shp) ?_⟩
            · rfl
            · rfl
        · skip
          exact absurd ((lg_cmp_lt _ _).mpr hz0) h40
  · skip
    omega

set_option maxHeartbeats 4000000 in
set_option maxRecDepth 100000 in
/-- runScript_3_2 -/
theorem c_X6_runScript_3_2 (lu : Launch) (Dg : va_G) (E : Nat → ClassId) (N : Nat) (G : Nat → Nat) (shp : Nat → (Nat → Int32) → va_E) (σ : Nat → Nat → Int32) {b : Nat} (hM : ModS E G shp N b) (f0 f1 f2 f3 f4 f5 f6 : Nat → Int32)  {g : Nat} (hz : g < 2 ^ 63) (hq : ¬ dvG g 2 = 0)  : CS lu yX6_runScript wsX6_runScript { frames := 7, cells := 0, slots := 0, locals := 161 } Dg E N G shp (mk7 σ b f0 f1 f2 f3 f4 f5 f6) [.ref (G b), .int (nI 2), .long (lN g)] (some (.int (nI 0))) (mk7 σ b (upd f0 0 (nI 1)) f1 f2 f3 f4 f5 f6) := by
  refine CS.of (cc := cX6_runScript) (maxL := 11) (ret := (some .int)) (by decide) rfl (Nat.le_of_ble_eq_true rfl) ?_
  intro p_ e_ s_ m_ args_ below_ meth_ c_
  refine v_eq (pc' := 0) (st' := []) rfl rfl ?_
  refine v_loc [0, 1, 2] [(0, .ref (G b)), (1, .int (nI 2)), (2, .long (lN g))] rfl ?_
  refine v_iload_n 1 dX6_runScript_0 rfl rfl ?_
  refine v_iconst (nI 1) dX6_runScript_1 (by decide +kernel) ?_
  refine v_icmp_neN 11 (by omega) (by omega) dX6_runScript_2 rfl (fun h2 => ?_) (fun h2 => ?_)
  · skip
    refine v_iload_n 1 dX6_runScript_11 rfl rfl ?_
    refine v_iconst (nI 2) dX6_runScript_12 (by decide +kernel) ?_
    refine v_icmp_neN 22 (by omega) (by omega) dX6_runScript_13 rfl (fun h13 => ?_) (fun h13 => ?_)
    · skip
      omega
    · skip
      refine v_ldc2 (v := (9999999999)) (by decide +kernel) dX6_runScript_16 ?_
      refine v_st (st' := [.long (lN 9999999999)]) (by first | rfl | decide +kernel) ?_
      refine v_goto 25 dX6_runScript_19 rfl ?_
      refine v_lstore [(4, .long (lN 9999999999)), (0, .ref (G b)), (1, .int (nI 2)), (2, .long (lN g))] dX6_runScript_25 (by decide) rfl ?_
      refine v_aload_n 1 dX6_runScript_27 rfl rfl ?_
      refine v_iload_n 2 dX6_runScript_28 rfl rfl ?_
      refine v_iconst (nI 1) dX6_runScript_29 (by decide +kernel) ?_
      refine v_iconst (nI 3) dX6_runScript_30 (by decide +kernel) ?_
      refine u_callSv [.int (nI 2), .int (nI 1), .int (nI 3)] [.ref (G b)] 3 (c_X6_in lu Dg E N G shp (mk7 σ b f0 f1 f2 f3 f4 f5 f6) (nI 2) (nI 1) (nI 3)) gX6_runScript_X6_in rfl rfl rfl (by decide +kernel) rfl ⟨Nat.le_of_ble_eq_true rfl, Nat.le_of_ble_eq_true rfl⟩ ⟨Nat.le_of_ble_eq_true rfl, Nat.le_of_ble_eq_true rfl⟩ (Nat.le_of_ble_eq_true rfl) rfl dX6_runScript_31 ?_
      refine v_if_eqB 54 dX6_runScript_34 rfl (fun h34 => ?_) (fun h34 => ?_)
      · skip
        exact absurd ⟨(nI_leI (by omega) (by omega)).mpr (by omega), (nI_leI (by omega) (by omega)).mpr (by omega)⟩ h34
      · skip
        refine v_lload_n 3 dX6_runScript_37 rfl rfl ?_
        refine v_lconst (lN 0) dX6_runScript_38 (by decide +kernel) ?_
        refine v_lcmp dX6_runScript_39 ?_
        refine v_if_lt 54 dX6_runScript_40 rfl (fun h40 => ?_) (fun h40 => ?_)
        · skip
          exact absurd ((lg_cmp_lt _ _).mp h40) (lN_nn hz)
        · skip
          refine v_lload_n 3 dX6_runScript_43 rfl rfl ?_
          refine v_lload 0 dX6_runScript_44 rfl ?_
          refine v_lcmp dX6_runScript_46 ?_
          refine v_if_gt 54 dX6_runScript_47 rfl (fun h47 => ?_) (fun h47 => ?_)
          · skip
            refine v_iconst (nI 1) dX6_runScript_54 (by decide +kernel) ?_
            refine u_callVv [.int (nI 1)] [] 1 (c_X6_holds lu Dg E N G shp σ hM f0 f1 f2 f3 f4 f5 f6 1 (by omega)) (ci := 6) (C := RX6) (T := TX6) (NF := 13) hM.n hM.s rfl gX6_runScript_X6_holds rfl rfl rfl (by decide +kernel) rfl ⟨Nat.le_of_ble_eq_true rfl, Nat.le_of_ble_eq_true rfl⟩ ⟨Nat.le_of_ble_eq_true rfl, Nat.le_of_ble_eq_true rfl⟩ (Nat.le_of_ble_eq_true rfl) rfl dX6_runScript_55 ?_
            refine v_if_neB 63 dX6_runScript_58 rfl (fun h58 => ?_) (fun h58 => ?_)
            · skip
              exact absurd h58 (by decide)
            · skip
              refine v_iconst (nI 0) dX6_runScript_61 (by decide +kernel) ?_
              refine v_iret rfl dX6_runScript_62 ⟨congrArg (fun z => some (Value.int z)) ?_, congrArg (φ shp) ?_⟩
              · rfl
              · rfl
          · skip
            exact absurd ((lg_cmp_gt _ _).mpr ((pk_lLT (by omega) hz).mpr (by have z9 : ¬ g < 10000000000 := fun q9 => hq (dvG_z.mpr q9); omega))) h47
  · skip
    omega

set_option maxHeartbeats 4000000 in
set_option maxRecDepth 100000 in
/-- runScript_0_2 -/
theorem c_X6_runScript_0_2 (lu : Launch) (Dg : va_G) (E : Nat → ClassId) (N : Nat) (G : Nat → Nat) (shp : Nat → (Nat → Int32) → va_E) (σ : Nat → Nat → Int32) {b : Nat} (hM : ModS E G shp N b) (f0 f1 f2 f3 f4 f5 f6 : Nat → Int32) {T : Nat} (hI : Inv T f1) (hT : T ≤ 999000) (hpd : f0 3 = nI 0) {g : Nat} (hz : g < 2 ^ 63) (hq : dvG g 2 = 0)  : CX lu yX6_runScript wsX6_runScript { frames := 7, cells := 0, slots := 0, locals := 161 } Dg E N G shp (mk7 σ b f0 f1 f2 f3 f4 f5 f6) [.ref (G b), .int (nI 2), .long (lN g)] (fun v' τ => v' = some (.int ((scrB f1 2 g 2).2)) ∧ ∃ g2, (∀ i, i < 358 * 0 → g2 i = f2 i) ∧ τ = mk7 σ b (upd f0 0 (nI 0)) f1 g2 f3 f4 f5 f6) := by
  refine CX.of (cc := cX6_runScript) (maxL := 11) (ret := (some .int)) (by decide) rfl (Nat.le_of_ble_eq_true rfl) ?_
  intro p_ e_ s_ m_ args_ below_ meth_ c_
  refine v_eq (pc' := 0) (st' := []) rfl rfl ?_
  refine v_loc [0, 1, 2] [(0, .ref (G b)), (1, .int (nI 2)), (2, .long (lN g))] rfl ?_
  have hu : upd (upd (upd f0 0 (nI 0)) 3 (nI (0 + 1))) 3 (nI 0) = upd f0 0 (nI 0) := upd_self (by rw [upd_ap, if_neg (by omega)]; exact hpd)
  refine v_iload_n 1 dX6_runScript_0 rfl rfl ?_
  refine v_iconst (nI 1) dX6_runScript_1 (by decide +kernel) ?_
  refine v_icmp_neN 11 (by omega) (by omega) dX6_runScript_2 rfl (fun h2 => ?_) (fun h2 => ?_)
  · skip
    refine v_iload_n 1 dX6_runScript_11 rfl rfl ?_
    refine v_iconst (nI 2) dX6_runScript_12 (by decide +kernel) ?_
    refine v_icmp_neN 22 (by omega) (by omega) dX6_runScript_13 rfl (fun h13 => ?_) (fun h13 => ?_)
    · skip
      omega
    · skip
      refine v_ldc2 (v := (9999999999)) (by decide +kernel) dX6_runScript_16 ?_
      refine v_st (st' := [.long (lN 9999999999)]) (by first | rfl | decide +kernel) ?_
      refine v_goto 25 dX6_runScript_19 rfl ?_
      refine v_lstore [(4, .long (lN 9999999999)), (0, .ref (G b)), (1, .int (nI 2)), (2, .long (lN g))] dX6_runScript_25 (by decide) rfl ?_
      refine v_aload_n 1 dX6_runScript_27 rfl rfl ?_
      refine v_iload_n 2 dX6_runScript_28 rfl rfl ?_
      refine v_iconst (nI 1) dX6_runScript_29 (by decide +kernel) ?_
      refine v_iconst (nI 3) dX6_runScript_30 (by decide +kernel) ?_
      refine u_callSv [.int (nI 2), .int (nI 1), .int (nI 3)] [.ref (G b)] 3 (c_X6_in lu Dg E N G shp (mk7 σ b f0 f1 f2 f3 f4 f5 f6) (nI 2) (nI 1) (nI 3)) gX6_runScript_X6_in rfl rfl rfl (by decide +kernel) rfl ⟨Nat.le_of_ble_eq_true rfl, Nat.le_of_ble_eq_true rfl⟩ ⟨Nat.le_of_ble_eq_true rfl, Nat.le_of_ble_eq_true rfl⟩ (Nat.le_of_ble_eq_true rfl) rfl dX6_runScript_31 ?_
      refine v_if_eqB 54 dX6_runScript_34 rfl (fun h34 => ?_) (fun h34 => ?_)
      · skip
        exact absurd ⟨(nI_leI (by omega) (by omega)).mpr (by omega), (nI_leI (by omega) (by omega)).mpr (by omega)⟩ h34
      · skip
        refine v_lload_n 3 dX6_runScript_37 rfl rfl ?_
        refine v_lconst (lN 0) dX6_runScript_38 (by decide +kernel) ?_
        refine v_lcmp dX6_runScript_39 ?_
        refine v_if_lt 54 dX6_runScript_40 rfl (fun h40 => ?_) (fun h40 => ?_)
        · skip
          exact absurd ((lg_cmp_lt _ _).mp h40) (lN_nn hz)
        · skip
          refine v_lload_n 3 dX6_runScript_43 rfl rfl ?_
          refine v_lload 0 dX6_runScript_44 rfl ?_
          refine v_lcmp dX6_runScript_46 ?_
          refine v_if_gt 54 dX6_runScript_47 rfl (fun h47 => ?_) (fun h47 => ?_)
          · skip
            exact absurd ((pk_lLT (by omega) hz).mp ((lg_cmp_gt _ _).mp h47)) (by have z9 : g < 10000000000 := dvG_z.mp hq; omega)
          · skip
            refine v_iconst (nI 0) dX6_runScript_50 (by decide +kernel) ?_
            refine v_goto 55 dX6_runScript_51 rfl ?_
            refine u_callVv [.int (nI 0)] [] 1 (c_X6_holds lu Dg E N G shp σ hM f0 f1 f2 f3 f4 f5 f6 0 (by omega)) (ci := 6) (C := RX6) (T := TX6) (NF := 13) hM.n hM.s rfl gX6_runScript_X6_holds rfl rfl rfl (by decide +kernel) rfl ⟨Nat.le_of_ble_eq_true rfl, Nat.le_of_ble_eq_true rfl⟩ ⟨Nat.le_of_ble_eq_true rfl, Nat.le_of_ble_eq_true rfl⟩ (Nat.le_of_ble_eq_true rfl) rfl dX6_runScript_55 ?_
            refine v_if_neB 63 dX6_runScript_58 rfl (fun h58 => ?_) (fun h58 => ?_)
            · skip
              refine v_aload_n 1 dX6_runScript_63 rfl rfl ?_
              refine u_callVn [] [] 0 (c_X6_push lu Dg E N G shp σ hM (upd f0 0 (nI 0)) f1 f2 f3 f4 f5 f6 (pd := 0) (by rw [upd_ap, if_neg (by omega)]; exact hpd) (by omega)) (ci := 6) (C := RX6) (T := TX6) (NF := 13) hM.n hM.s rfl gX6_runScript_X6_push rfl rfl rfl (by decide +kernel) rfl ⟨Nat.le_of_ble_eq_true rfl, Nat.le_of_ble_eq_true rfl⟩ ⟨Nat.le_of_ble_eq_true rfl, Nat.le_of_ble_eq_true rfl⟩ (Nat.le_of_ble_eq_true rfl) rfl dX6_runScript_64 ?_
              refine v_σ (mk7 σ b (upd (upd f0 0 (nI 0)) 3 (nI (0 + 1))) ((scrB f1 2 g 0).1) (cpF f1 f2 0 (358 * (0)) 358) f3 f4 f5 f6) (congrArg (fun z9 => mk7 σ b (upd (upd f0 0 (nI 0)) 3 (nI (0 + 1))) z9 (cpF f1 f2 0 (358 * (0)) 358) f3 f4 f5 f6) (rfl)) ?_
              refine v_iconst ((-1)) dX6_runScript_67 (by decide +kernel) ?_
              refine v_istore [(6, .int ((-1))), (4, .long (lN 9999999999)), (0, .ref (G b)), (1, .int (nI 2)), (2, .long (lN g))] dX6_runScript_68 (by decide) rfl ?_
              refine v_locv 6 ((scrB f1 2 g 0).2) 0 [(6, .int ((scrB f1 2 g 0).2)), (4, .long (lN 9999999999)), (0, .ref (G b)), (1, .int (nI 2)), (2, .long (lN g))] rfl rfl rfl ?_
              refine v_iconst (nI 0) dX6_runScript_70 (by decide +kernel) ?_
              refine v_istore [(7, .int (nI 0)), (6, .int ((scrB f1 2 g 0).2)), (4, .long (lN 9999999999)), (0, .ref (G b)), (1, .int (nI 2)), (2, .long (lN g))] dX6_runScript_71 (by decide) rfl ?_
              refine v_loc [0, 1, 5, 4, 3] [(7, .int (nI 0)), (6, .int ((scrB f1 2 g 0).2)), (2, .long (lN g)), (1, .int (nI 2)), (0, .ref (G b))] rfl ?_
              refine u_loop1 (fun n (j : Nat) => j + n = 2) (fun (j : Nat) => mk7 σ b (upd (upd f0 0 (nI 0)) 3 (nI (0 + 1))) ((scrB f1 2 g j).1) (cpF f1 f2 0 (358 * (0)) 358) f3 f4 f5 f6) (fun (j : Nat) => [(7, .int (nI j)), (6, .int ((scrB f1 2 g j).2)), (2, .long (lN g)), (1, .int (nI 2)), (0, .ref (G b))]) (2) 0 ((by omega)) ?_
              intro n j hL ih
              refine v_iload 0 dX6_runScript_73 rfl ?_
              refine v_iload_n 3 dX6_runScript_75 rfl rfl ?_
              refine v_icmp_geN 142 (by omega) (by omega) dX6_runScript_76 rfl (fun h76 => ?_) (fun h76 => ?_)
              · skip
                have hjk9 : j = 2 := by omega
                have ek9 : scrB f1 2 g 2 = (scrB f1 2 g j) := by rw [hjk9]
                have ek8 := congrArg Prod.snd ek9
                refine v_σ (mk7 σ b (upd (upd f0 0 (nI 0)) 3 (nI (0 + 1))) ((scrB f1 2 g 2).1) (cpF f1 f2 0 (358 * (0)) 358) f3 f4 f5 f6) (congrArg (fun z9 => mk7 σ b (upd (upd f0 0 (nI 0)) 3 (nI (0 + 1))) z9 (cpF f1 f2 0 (358 * (0)) 358) f3 f4 f5 f6) ((by rw [ek9]))) ?_
                refine v_locv 6 ((scrB f1 2 g 2).2) 1 [(7, .int (nI j)), (6, .int ((scrB f1 2 g 2).2)), (2, .long (lN g)), (1, .int (nI 2)), (0, .ref (G b))] rfl (ek8.symm) rfl ?_
                refine v_aload_n 4 dX6_runScript_142 rfl rfl ?_
                refine u_callVn [] [] 0 ((c_X6_pop lu Dg E N G shp σ hM (upd (upd f0 0 (nI 0)) 3 (nI (0 + 1))) ((scrB f1 2 g 2).1) (cpF f1 f2 0 (358 * (0)) 358) f3 f4 f5 f6 (pd := 0) (by rw [upd_ap, if_pos rfl]) (by omega) f1 (fun i hi => by rw [cpF_in _ _ (by omega) (by omega)]; congr 1; omega)).to rfl (congrArg (fun z9 => mk7 σ b z9 f1 (cpF f1 f2 0 (358 * (0)) 358) f3 f4 f5 f6) hu)) (ci := 6) (C := RX6) (T := TX6) (NF := 13) hM.n hM.s rfl gX6_runScript_X6_pop rfl rfl rfl (by decide +kernel) rfl ⟨Nat.le_of_ble_eq_true rfl, Nat.le_of_ble_eq_true rfl⟩ ⟨Nat.le_of_ble_eq_true rfl, Nat.le_of_ble_eq_true rfl⟩ (Nat.le_of_ble_eq_true rfl) rfl dX6_runScript_143 ?_
                refine v_iload 1 dX6_runScript_146 rfl ?_
                refine v_iret rfl dX6_runScript_148 ⟨mk7 σ b (upd f0 0 (nI 0)) f1 (cpF f1 f2 0 (358 * (0)) 358) f3 f4 f5 f6, rfl, ⟨rfl, _, fun i hi => by omega, rfl⟩⟩
              · skip
                have i1 := Inv.scr hI (n := 2) (g := g) (k := j) (by omega)
                refine v_iload 1 dX6_runScript_79 rfl ?_
                refine v_iconst ((-1)) dX6_runScript_81 (by decide +kernel) ?_
                refine v_icmp_ne 142 dX6_runScript_82 rfl (fun h82 => ?_) (fun h82 => ?_)
                · skip
                  have ek9 : scrB f1 2 g 2 = (scrB f1 2 g j) := scrB_stay (by omega) h82
                  have ek8 := congrArg Prod.snd ek9
                  refine v_σ (mk7 σ b (upd (upd f0 0 (nI 0)) 3 (nI (0 + 1))) ((scrB f1 2 g 2).1) (cpF f1 f2 0 (358 * (0)) 358) f3 f4 f5 f6) (congrArg (fun z9 => mk7 σ b (upd (upd f0 0 (nI 0)) 3 (nI (0 + 1))) z9 (cpF f1 f2 0 (358 * (0)) 358) f3 f4 f5 f6) ((by rw [ek9]))) ?_
                  refine v_locv 6 ((scrB f1 2 g 2).2) 1 [(7, .int (nI j)), (6, .int ((scrB f1 2 g 2).2)), (2, .long (lN g)), (1, .int (nI 2)), (0, .ref (G b))] rfl (ek8.symm) rfl ?_
                  refine v_aload_n 4 dX6_runScript_142 rfl rfl ?_
                  refine u_callVn [] [] 0 ((c_X6_pop lu Dg E N G shp σ hM (upd (upd f0 0 (nI 0)) 3 (nI (0 + 1))) ((scrB f1 2 g 2).1) (cpF f1 f2 0 (358 * (0)) 358) f3 f4 f5 f6 (pd := 0) (by rw [upd_ap, if_pos rfl]) (by omega) f1 (fun i hi => by rw [cpF_in _ _ (by omega) (by omega)]; congr 1; omega)).to rfl (congrArg (fun z9 => mk7 σ b z9 f1 (cpF f1 f2 0 (358 * (0)) 358) f3 f4 f5 f6) hu)) (ci := 6) (C := RX6) (T := TX6) (NF := 13) hM.n hM.s rfl gX6_runScript_X6_pop rfl rfl rfl (by decide +kernel) rfl ⟨Nat.le_of_ble_eq_true rfl, Nat.le_of_ble_eq_true rfl⟩ ⟨Nat.le_of_ble_eq_true rfl, Nat.le_of_ble_eq_true rfl⟩ (Nat.le_of_ble_eq_true rfl) rfl dX6_runScript_143 ?_
                  refine v_iload 1 dX6_runScript_146 rfl ?_
                  refine v_iret rfl dX6_runScript_148 ⟨mk7 σ b (upd f0 0 (nI 0)) f1 (cpF f1 f2 0 (358 * (0)) 358) f3 f4 f5 f6, rfl, ⟨rfl, _, fun i hi => by omega, rfl⟩⟩
                · skip
                  have es : scrB f1 2 g (j + 1) = (succS (scrB f1 2 g j).1 (grp 2 g j), ic (succP (scrB f1 2 g j).1 (grp 2 g j)) (-1) (nI j)) := by
                    show scrStep _ _ (scrB f1 2 g j) = _
                    unfold scrStep
                    rw [ic_t h82]
                  refine v_lload_n 2 dX6_runScript_85 rfl rfl ?_
                  refine v_lstore [(8, .long (lN g)), (7, .int (nI j)), (6, .int ((scrB f1 2 g j).2)), (2, .long (lN g)), (1, .int (nI 2)), (0, .ref (G b))] dX6_runScript_86 (by decide) rfl ?_
                  refine v_iload 1 dX6_runScript_88 rfl ?_
                  refine v_iconst (nI 1) dX6_runScript_90 (by decide +kernel) ?_
                  refine v_iaddN dX6_runScript_91 ?_
                  refine v_istore [(10, .int (nI (j + 1))), (8, .long (lN g)), (7, .int (nI j)), (6, .int ((scrB f1 2 g j).2)), (2, .long (lN g)), (1, .int (nI 2)), (0, .ref (G b))] dX6_runScript_92 (by decide) rfl ?_
                  refine v_loc [0, 1, 2, 3, 4, 5, 6] [(10, .int (nI (j + 1))), (8, .long (lN g)), (7, .int (nI j)), (6, .int ((scrB f1 2 g j).2)), (2, .long (lN g)), (1, .int (nI 2)), (0, .ref (G b))] rfl ?_
                  refine u_loop1 (fun n2 (t : Nat) => j + 1 + t + n2 = 2) (fun (t : Nat) => mk7 σ b (upd (upd f0 0 (nI 0)) 3 (nI (0 + 1))) ((scrB f1 2 g j).1) (cpF f1 f2 0 (358 * (0)) 358) f3 f4 f5 f6) (fun (t : Nat) => [(10, .int (nI (j + 1 + t))), (8, .long (lN (dvG g t))), (7, .int (nI j)), (6, .int ((scrB f1 2 g j).2)), (2, .long (lN g)), (1, .int (nI 2)), (0, .ref (G b))]) (2 - 1 - j) 0 ((by omega)) ?_
                  intro n2 t hN ih2
                  refine v_iload 0 dX6_runScript_94 rfl ?_
                  refine v_iload_n 5 dX6_runScript_96 rfl rfl ?_
                  refine v_icmp_geN 114 (by omega) (by omega) dX6_runScript_97 rfl (fun h97 => ?_) (fun h97 => ?_)
                  · skip
                    have hmk9 : t = 2 - 1 - j := by omega
                    refine v_aload_n 6 dX6_runScript_114 rfl rfl ?_
                    refine v_lload 1 dX6_runScript_115 rfl ?_
                    refine v_ldc2 (v := (100000)) (by decide +kernel) dX6_runScript_117 ?_
                    refine v_st (st' := [.long (lN 100000), .long (lN (dvG g t)), .ref (G b)]) (by first | rfl | decide +kernel) ?_
                    refine v_lrem dX6_runScript_120 (by decide +kernel) ?_
                    refine v_st (st' := [.long (lN (grp 2 g j)), .ref (G b)]) (by rw [pk_lRem (dvG_lt hz _) (by omega) (by omega), dvG_eq, hmk9]; rfl) ?_
                    refine v_l2i dX6_runScript_121 ?_
                    refine v_topi (nI (grp 2 g j)) (lN_i _) ?_
                    refine u_callVv [.int (nI (grp 2 g j))] [] 1 (c_X6_succeeds lu Dg E N G shp σ hM (upd (upd f0 0 (nI 0)) 3 (nI (0 + 1))) ((scrB f1 2 g j).1) (cpF f1 f2 0 (358 * (0)) 358) f3 f4 f5 f6 i1 (g := grp 2 g j) (grp_lt 2 g j) (fun k9 hk9 => ⟨_, i1.goBy (n := k9) (by omega)⟩)) (ci := 6) (C := RX6) (T := TX6) (NF := 13) hM.n hM.s rfl gX6_runScript_X6_succeeds rfl rfl rfl (by decide +kernel) rfl ⟨Nat.le_of_ble_eq_true rfl, Nat.le_of_ble_eq_true rfl⟩ ⟨Nat.le_of_ble_eq_true rfl, Nat.le_of_ble_eq_true rfl⟩ (Nat.le_of_ble_eq_true rfl) rfl dX6_runScript_122 ?_
                    refine v_σ (mk7 σ b (upd (upd f0 0 (nI 0)) 3 (nI (0 + 1))) ((scrB f1 2 g (j + 1)).1) (cpF f1 f2 0 (358 * (0)) 358) f3 f4 f5 f6) (congrArg (fun z9 => mk7 σ b (upd (upd f0 0 (nI 0)) 3 (nI (0 + 1))) z9 (cpF f1 f2 0 (358 * (0)) 358) f3 f4 f5 f6) ((by rw [es]))) ?_
                    refine v_if_eqB 132 dX6_runScript_125 rfl (fun h125 => ?_) (fun h125 => ?_)
                    · skip
                      refine v_iload 2 dX6_runScript_132 rfl ?_
                      refine v_st (st' := [.int ((scrB f1 2 g (j + 1)).2)]) (by rw [es]; show [Value.int _] = [Value.int (ic _ _ _)]; rw [ic_f h125]) ?_
                      refine v_istore [(6, .int ((scrB f1 2 g (j + 1)).2)), (10, .int (nI (j + 1 + t))), (8, .long (lN (dvG g t))), (7, .int (nI j)), (2, .long (lN g)), (1, .int (nI 2)), (0, .ref (G b))] dX6_runScript_134 (by decide) rfl ?_
                      refine v_iincN 3 [(7, .int (nI (j + 1))), (6, .int ((scrB f1 2 g (j + 1)).2)), (10, .int (nI (j + 1 + t))), (8, .long (lN (dvG g t))), (2, .long (lN g)), (1, .int (nI 2)), (0, .ref (G b))] dX6_runScript_136 rfl (by decide) rfl ?_
                      refine v_goto 73 dX6_runScript_139 rfl ?_
                      refine v_loc [0, 1, 4, 5, 6] [(7, .int (nI (j + 1))), (6, .int ((scrB f1 2 g (j + 1)).2)), (2, .long (lN g)), (1, .int (nI 2)), (0, .ref (G b))] rfl ?_
                      exact ih _ (j + 1) (show n - 1 < n by omega) (by omega)
                    · skip
                      refine v_iconst ((-1)) dX6_runScript_128 (by decide +kernel) ?_
                      refine v_goto 134 dX6_runScript_129 rfl ?_
                      refine v_st (st' := [.int ((scrB f1 2 g (j + 1)).2)]) (by rw [es]; show [Value.int _] = [Value.int (ic _ _ _)]; rw [ic_t h125]) ?_
                      refine v_istore [(6, .int ((scrB f1 2 g (j + 1)).2)), (10, .int (nI (j + 1 + t))), (8, .long (lN (dvG g t))), (7, .int (nI j)), (2, .long (lN g)), (1, .int (nI 2)), (0, .ref (G b))] dX6_runScript_134 (by decide) rfl ?_
                      refine v_iincN 3 [(7, .int (nI (j + 1))), (6, .int ((scrB f1 2 g (j + 1)).2)), (10, .int (nI (j + 1 + t))), (8, .long (lN (dvG g t))), (2, .long (lN g)), (1, .int (nI 2)), (0, .ref (G b))] dX6_runScript_136 rfl (by decide) rfl ?_
                      refine v_goto 73 dX6_runScript_139 rfl ?_
                      refine v_loc [0, 1, 4, 5, 6] [(7, .int (nI (j + 1))), (6, .int ((scrB f1 2 g (j + 1)).2)), (2, .long (lN g)), (1, .int (nI 2)), (0, .ref (G b))] rfl ?_
                      exact ih _ (j + 1) (show n - 1 < n by omega) (by omega)
                  · skip
                    refine v_lload 1 dX6_runScript_100 rfl ?_
                    refine v_ldc2 (v := (100000)) (by decide +kernel) dX6_runScript_102 ?_
                    refine v_st (st' := [.long (lN 100000), .long (lN (dvG g t))]) (by first | rfl | decide +kernel) ?_
                    refine v_ldiv dX6_runScript_105 (by decide +kernel) ?_
                    refine v_st (st' := [.long (lN (dvG g (t + 1)))]) (by rw [pk_lDiv (dvG_lt hz _) (by omega) (by omega)]; rfl) ?_
                    refine v_lstore [(8, .long (lN (dvG g (t + 1)))), (10, .int (nI (j + 1 + t))), (7, .int (nI j)), (6, .int ((scrB f1 2 g j).2)), (2, .long (lN g)), (1, .int (nI 2)), (0, .ref (G b))] dX6_runScript_106 (by decide) rfl ?_
                    refine v_iincN 1 [(10, .int (nI (j + 1 + t + 1))), (8, .long (lN (dvG g (t + 1)))), (7, .int (nI j)), (6, .int ((scrB f1 2 g j).2)), (2, .long (lN g)), (1, .int (nI 2)), (0, .ref (G b))] dX6_runScript_108 rfl (by decide) rfl ?_
                    refine v_goto 94 dX6_runScript_111 rfl ?_
                    refine v_loc [0, 1, 2, 3, 4, 5, 6] [(10, .int (nI (j + 1 + t + 1))), (8, .long (lN (dvG g (t + 1)))), (7, .int (nI j)), (6, .int ((scrB f1 2 g j).2)), (2, .long (lN g)), (1, .int (nI 2)), (0, .ref (G b))] rfl ?_
                    exact ih2 _ (t + 1) (show n2 - 1 < n2 by omega) (by omega)
            · skip
              exact absurd rfl h58
  · skip
    omega

set_option maxHeartbeats 4000000 in
set_option maxRecDepth 100000 in
/-- runScript_2_3 -/
theorem c_X6_runScript_2_3 (lu : Launch) (Dg : va_G) (E : Nat → ClassId) (N : Nat) (G : Nat → Nat) (shp : Nat → (Nat → Int32) → va_E) (σ : Nat → Nat → Int32) {b : Nat} (hM : ModS E G shp N b) (f0 f1 f2 f3 f4 f5 f6 : Nat → Int32)  (z : Int64) (hz0 : z < 0)  : CS lu yX6_runScript wsX6_runScript { frames := 7, cells := 0, slots := 0, locals := 161 } Dg E N G shp (mk7 σ b f0 f1 f2 f3 f4 f5 f6) [.ref (G b), .int (nI 3), .long z] (some (.int (nI 0))) (mk7 σ b (upd f0 0 (nI 1)) f1 f2 f3 f4 f5 f6) := by
  refine CS.of (cc := cX6_runScript) (maxL := 11) (ret := (some .int)) (by decide) rfl (Nat.le_of_ble_eq_true rfl) ?_
  intro p_ e_ s_ m_ args_ below_ meth_ c_
  refine v_eq (pc' := 0) (st' := []) rfl rfl ?_
  refine v_loc [0, 1, 2] [(0, .ref (G b)), (1, .int (nI 3)), (2, .long z)] rfl ?_
  refine v_iload_n 1 dX6_runScript_0 rfl rfl ?_
  refine v_iconst (nI 1) dX6_runScript_1 (by decide +kernel) ?_
  refine v_icmp_neN 11 (by omega) (by omega) dX6_runScript_2 rfl (fun h2 => ?_) (fun h2 => ?_)
  · skip
    refine v_iload_n 1 dX6_runScript_11 rfl rfl ?_
    refine v_iconst (nI 2) dX6_runScript_12 (by decide +kernel) ?_
    refine v_icmp_neN 22 (by omega) (by omega) dX6_runScript_13 rfl (fun h13 => ?_) (fun h13 => ?_)
    · skip
      refine v_ldc2 (v := (999999999999999)) (by decide +kernel) dX6_runScript_22 ?_
      refine v_st (st' := [.long (lN 999999999999999)]) (by first | rfl | decide +kernel) ?_
      refine v_lstore [(4, .long (lN 999999999999999)), (0, .ref (G b)), (1, .int (nI 3)), (2, .long z)] dX6_runScript_25 (by decide) rfl ?_
      refine v_aload_n 1 dX6_runScript_27 rfl rfl ?_
      refine v_iload_n 2 dX6_runScript_28 rfl rfl ?_
      refine v_iconst (nI 1) dX6_runScript_29 (by decide +kernel) ?_
      refine v_iconst (nI 3) dX6_runScript_30 (by decide +kernel) ?_
      refine u_callSv [.int (nI 3), .int (nI 1), .int (nI 3)] [.ref (G b)] 3 (c_X6_in lu Dg E N G shp (mk7 σ b f0 f1 f2 f3 f4 f5 f6) (nI 3) (nI 1) (nI 3)) gX6_runScript_X6_in rfl rfl rfl (by decide +kernel) rfl ⟨Nat.le_of_ble_eq_true rfl, Nat.le_of_ble_eq_true rfl⟩ ⟨Nat.le_of_ble_eq_true rfl, Nat.le_of_ble_eq_true rfl⟩ (Nat.le_of_ble_eq_true rfl) rfl dX6_runScript_31 ?_
      refine v_if_eqB 54 dX6_runScript_34 rfl (fun h34 => ?_) (fun h34 => ?_)
      · skip
        exact absurd ⟨(nI_leI (by omega) (by omega)).mpr (by omega), (nI_leI (by omega) (by omega)).mpr (by omega)⟩ h34
      · skip
        refine v_lload_n 3 dX6_runScript_37 rfl rfl ?_
        refine v_lconst (lN 0) dX6_runScript_38 (by decide +kernel) ?_
        refine v_lcmp dX6_runScript_39 ?_
        refine v_if_lt 54 dX6_runScript_40 rfl (fun h40 => ?_) (fun h40 => ?_)
        · skip
          refine v_iconst (nI 1) dX6_runScript_54 (by decide +kernel) ?_
          refine u_callVv [.int (nI 1)] [] 1 (c_X6_holds lu Dg E N G shp σ hM f0 f1 f2 f3 f4 f5 f6 1 (by omega)) (ci := 6) (C := RX6) (T := TX6) (NF := 13) hM.n hM.s rfl gX6_runScript_X6_holds rfl rfl rfl (by decide +kernel) rfl ⟨Nat.le_of_ble_eq_true rfl, Nat.le_of_ble_eq_true rfl⟩ ⟨Nat.le_of_ble_eq_true rfl, Nat.le_of_ble_eq_true rfl⟩ (Nat.le_of_ble_eq_true rfl) rfl dX6_runScript_55 ?_
          refine v_if_neB 63 dX6_runScript_58 rfl (fun h58 => ?_) (fun h58 => ?_)
          · skip
            exact absurd h58 (by decide)
          · skip
            refine v_iconst (nI 0) dX6_runScript_61 (by decide +kernel) ?_
            refine v_iret rfl dX6_runScript_62 ⟨congrArg (fun z => some (Value.int z)) ?_, congrArg (φ shp) ?_⟩
            · rfl
            · rfl
        · skip
          exact absurd ((lg_cmp_lt _ _).mpr hz0) h40
    · skip
      omega
  · skip
    omega

set_option maxHeartbeats 4000000 in
set_option maxRecDepth 100000 in
/-- runScript_3_3 -/
theorem c_X6_runScript_3_3 (lu : Launch) (Dg : va_G) (E : Nat → ClassId) (N : Nat) (G : Nat → Nat) (shp : Nat → (Nat → Int32) → va_E) (σ : Nat → Nat → Int32) {b : Nat} (hM : ModS E G shp N b) (f0 f1 f2 f3 f4 f5 f6 : Nat → Int32)  {g : Nat} (hz : g < 2 ^ 63) (hq : ¬ dvG g 3 = 0)  : CS lu yX6_runScript wsX6_runScript { frames := 7, cells := 0, slots := 0, locals := 161 } Dg E N G shp (mk7 σ b f0 f1 f2 f3 f4 f5 f6) [.ref (G b), .int (nI 3), .long (lN g)] (some (.int (nI 0))) (mk7 σ b (upd f0 0 (nI 1)) f1 f2 f3 f4 f5 f6) := by
  refine CS.of (cc := cX6_runScript) (maxL := 11) (ret := (some .int)) (by decide) rfl (Nat.le_of_ble_eq_true rfl) ?_
  intro p_ e_ s_ m_ args_ below_ meth_ c_
  refine v_eq (pc' := 0) (st' := []) rfl rfl ?_
  refine v_loc [0, 1, 2] [(0, .ref (G b)), (1, .int (nI 3)), (2, .long (lN g))] rfl ?_
  refine v_iload_n 1 dX6_runScript_0 rfl rfl ?_
  refine v_iconst (nI 1) dX6_runScript_1 (by decide +kernel) ?_
  refine v_icmp_neN 11 (by omega) (by omega) dX6_runScript_2 rfl (fun h2 => ?_) (fun h2 => ?_)
  · skip
    refine v_iload_n 1 dX6_runScript_11 rfl rfl ?_
    refine v_iconst (nI 2) dX6_runScript_12 (by decide +kernel) ?_
    refine v_icmp_neN 22 (by omega) (by omega) dX6_runScript_13 rfl (fun h13 => ?_) (fun h13 => ?_)
    · skip
      refine v_ldc2 (v := (999999999999999)) (by decide +kernel) dX6_runScript_22 ?_
      refine v_st (st' := [.long (lN 999999999999999)]) (by first | rfl | decide +kernel) ?_
      refine v_lstore [(4, .long (lN 999999999999999)), (0, .ref (G b)), (1, .int (nI 3)), (2, .long (lN g))] dX6_runScript_25 (by decide) rfl ?_
      refine v_aload_n 1 dX6_runScript_27 rfl rfl ?_
      refine v_iload_n 2 dX6_runScript_28 rfl rfl ?_
      refine v_iconst (nI 1) dX6_runScript_29 (by decide +kernel) ?_
      refine v_iconst (nI 3) dX6_runScript_30 (by decide +kernel) ?_
      refine u_callSv [.int (nI 3), .int (nI 1), .int (nI 3)] [.ref (G b)] 3 (c_X6_in lu Dg E N G shp (mk7 σ b f0 f1 f2 f3 f4 f5 f6) (nI 3) (nI 1) (nI 3)) gX6_runScript_X6_in rfl rfl rfl (by decide +kernel) rfl ⟨Nat.le_of_ble_eq_true rfl, Nat.le_of_ble_eq_true rfl⟩ ⟨Nat.le_of_ble_eq_true rfl, Nat.le_of_ble_eq_true rfl⟩ (Nat.le_of_ble_eq_true rfl) rfl dX6_runScript_31 ?_
      refine v_if_eqB 54 dX6_runScript_34 rfl (fun h34 => ?_) (fun h34 => ?_)
      · skip
        exact absurd ⟨(nI_leI (by omega) (by omega)).mpr (by omega), (nI_leI (by omega) (by omega)).mpr (by omega)⟩ h34
      · skip
        refine v_lload_n 3 dX6_runScript_37 rfl rfl ?_
        refine v_lconst (lN 0) dX6_runScript_38 (by decide +kernel) ?_
        refine v_lcmp dX6_runScript_39 ?_
        refine v_if_lt 54 dX6_runScript_40 rfl (fun h40 => ?_) (fun h40 => ?_)
        · skip
          exact absurd ((lg_cmp_lt _ _).mp h40) (lN_nn hz)
        · skip
          refine v_lload_n 3 dX6_runScript_43 rfl rfl ?_
          refine v_lload 0 dX6_runScript_44 rfl ?_
          refine v_lcmp dX6_runScript_46 ?_
          refine v_if_gt 54 dX6_runScript_47 rfl (fun h47 => ?_) (fun h47 => ?_)
          · skip
            refine v_iconst (nI 1) dX6_runScript_54 (by decide +kernel) ?_
            refine u_callVv [.int (nI 1)] [] 1 (c_X6_holds lu Dg E N G shp σ hM f0 f1 f2 f3 f4 f5 f6 1 (by omega)) (ci := 6) (C := RX6) (T := TX6) (NF := 13) hM.n hM.s rfl gX6_runScript_X6_holds rfl rfl rfl (by decide +kernel) rfl ⟨Nat.le_of_ble_eq_true rfl, Nat.le_of_ble_eq_true rfl⟩ ⟨Nat.le_of_ble_eq_true rfl, Nat.le_of_ble_eq_true rfl⟩ (Nat.le_of_ble_eq_true rfl) rfl dX6_runScript_55 ?_
            refine v_if_neB 63 dX6_runScript_58 rfl (fun h58 => ?_) (fun h58 => ?_)
            · skip
              exact absurd h58 (by decide)
            · skip
              refine v_iconst (nI 0) dX6_runScript_61 (by decide +kernel) ?_
              refine v_iret rfl dX6_runScript_62 ⟨congrArg (fun z => some (Value.int z)) ?_, congrArg (φ shp) ?_⟩
              · rfl
              · rfl
          · skip
            exact absurd ((lg_cmp_gt _ _).mpr ((pk_lLT (by omega) hz).mpr (by have z9 : ¬ g < 1000000000000000 := fun q9 => hq (dvG_z.mpr q9); omega))) h47
    · skip
      omega
  · skip
    omega

set_option maxHeartbeats 4000000 in
set_option maxRecDepth 100000 in
/-- runScript_0_3 -/
theorem c_X6_runScript_0_3 (lu : Launch) (Dg : va_G) (E : Nat → ClassId) (N : Nat) (G : Nat → Nat) (shp : Nat → (Nat → Int32) → va_E) (σ : Nat → Nat → Int32) {b : Nat} (hM : ModS E G shp N b) (f0 f1 f2 f3 f4 f5 f6 : Nat → Int32) {T : Nat} (hI : Inv T f1) (hT : T ≤ 999000) (hpd : f0 3 = nI 0) {g : Nat} (hz : g < 2 ^ 63) (hq : dvG g 3 = 0)  : CX lu yX6_runScript wsX6_runScript { frames := 7, cells := 0, slots := 0, locals := 161 } Dg E N G shp (mk7 σ b f0 f1 f2 f3 f4 f5 f6) [.ref (G b), .int (nI 3), .long (lN g)] (fun v' τ => v' = some (.int ((scrB f1 3 g 3).2)) ∧ ∃ g2, (∀ i, i < 358 * 0 → g2 i = f2 i) ∧ τ = mk7 σ b (upd f0 0 (nI 0)) f1 g2 f3 f4 f5 f6) := by
  refine CX.of (cc := cX6_runScript) (maxL := 11) (ret := (some .int)) (by decide) rfl (Nat.le_of_ble_eq_true rfl) ?_
  intro p_ e_ s_ m_ args_ below_ meth_ c_
  refine v_eq (pc' := 0) (st' := []) rfl rfl ?_
  refine v_loc [0, 1, 2] [(0, .ref (G b)), (1, .int (nI 3)), (2, .long (lN g))] rfl ?_
  have hu : upd (upd (upd f0 0 (nI 0)) 3 (nI (0 + 1))) 3 (nI 0) = upd f0 0 (nI 0) := upd_self (by rw [upd_ap, if_neg (by omega)]; exact hpd)
  refine v_iload_n 1 dX6_runScript_0 rfl rfl ?_
  refine v_iconst (nI 1) dX6_runScript_1 (by decide +kernel) ?_
  refine v_icmp_neN 11 (by omega) (by omega) dX6_runScript_2 rfl (fun h2 => ?_) (fun h2 => ?_)
  · skip
    refine v_iload_n 1 dX6_runScript_11 rfl rfl ?_
    refine v_iconst (nI 2) dX6_runScript_12 (by decide +kernel) ?_
    refine v_icmp_neN 22 (by omega) (by omega) dX6_runScript_13 rfl (fun h13 => ?_) (fun h13 => ?_)
    · skip
      refine v_ldc2 (v := (999999999999999)) (by decide +kernel) dX6_runScript_22 ?_
      refine v_st (st' := [.long (lN 999999999999999)]) (by first | rfl | decide +kernel) ?_
      refine v_lstore [(4, .long (lN 999999999999999)), (0, .ref (G b)), (1, .int (nI 3)), (2, .long (lN g))] dX6_runScript_25 (by decide) rfl ?_
      refine v_aload_n 1 dX6_runScript_27 rfl rfl ?_
      refine v_iload_n 2 dX6_runScript_28 rfl rfl ?_
      refine v_iconst (nI 1) dX6_runScript_29 (by decide +kernel) ?_
      refine v_iconst (nI 3) dX6_runScript_30 (by decide +kernel) ?_
      refine u_callSv [.int (nI 3), .int (nI 1), .int (nI 3)] [.ref (G b)] 3 (c_X6_in lu Dg E N G shp (mk7 σ b f0 f1 f2 f3 f4 f5 f6) (nI 3) (nI 1) (nI 3)) gX6_runScript_X6_in rfl rfl rfl (by decide +kernel) rfl ⟨Nat.le_of_ble_eq_true rfl, Nat.le_of_ble_eq_true rfl⟩ ⟨Nat.le_of_ble_eq_true rfl, Nat.le_of_ble_eq_true rfl⟩ (Nat.le_of_ble_eq_true rfl) rfl dX6_runScript_31 ?_
      refine v_if_eqB 54 dX6_runScript_34 rfl (fun h34 => ?_) (fun h34 => ?_)
      · skip
        exact absurd ⟨(nI_leI (by omega) (by omega)).mpr (by omega), (nI_leI (by omega) (by omega)).mpr (by omega)⟩ h34
      · skip
        refine v_lload_n 3 dX6_runScript_37 rfl rfl ?_
        refine v_lconst (lN 0) dX6_runScript_38 (by decide +kernel) ?_
        refine v_lcmp dX6_runScript_39 ?_
        refine v_if_lt 54 dX6_runScript_40 rfl (fun h40 => ?_) (fun h40 => ?_)
        · skip
          exact absurd ((lg_cmp_lt _ _).mp h40) (lN_nn hz)
        · skip
          refine v_lload_n 3 dX6_runScript_43 rfl rfl ?_
          refine v_lload 0 dX6_runScript_44 rfl ?_
          refine v_lcmp dX6_runScript_46 ?_
          refine v_if_gt 54 dX6_runScript_47 rfl (fun h47 => ?_) (fun h47 => ?_)
          · skip
            exact absurd ((pk_lLT (by omega) hz).mp ((lg_cmp_gt _ _).mp h47)) (by have z9 : g < 1000000000000000 := dvG_z.mp hq; omega)
          · skip
            refine v_iconst (nI 0) dX6_runScript_50 (by decide +kernel) ?_
            refine v_goto 55 dX6_runScript_51 rfl ?_
            refine u_callVv [.int (nI 0)] [] 1 (c_X6_holds lu Dg E N G shp σ hM f0 f1 f2 f3 f4 f5 f6 0 (by omega)) (ci := 6) (C := RX6) (T := TX6) (NF := 13) hM.n hM.s rfl gX6_runScript_X6_holds rfl rfl rfl (by decide +kernel) rfl ⟨Nat.le_of_ble_eq_true rfl, Nat.le_of_ble_eq_true rfl⟩ ⟨Nat.le_of_ble_eq_true rfl, Nat.le_of_ble_eq_true rfl⟩ (Nat.le_of_ble_eq_true rfl) rfl dX6_runScript_55 ?_
            refine v_if_neB 63 dX6_runScript_58 rfl (fun h58 => ?_) (fun h58 => ?_)
            · skip
              refine v_aload_n 1 dX6_runScript_63 rfl rfl ?_
              refine u_callVn [] [] 0 (c_X6_push lu Dg E N G shp σ hM (upd f0 0 (nI 0)) f1 f2 f3 f4 f5 f6 (pd := 0) (by rw [upd_ap, if_neg (by omega)]; exact hpd) (by omega)) (ci := 6) (C := RX6) (T := TX6) (NF := 13) hM.n hM.s rfl gX6_runScript_X6_push rfl rfl rfl (by decide +kernel) rfl ⟨Nat.le_of_ble_eq_true rfl, Nat.le_of_ble_eq_true rfl⟩ ⟨Nat.le_of_ble_eq_true rfl, Nat.le_of_ble_eq_true rfl⟩ (Nat.le_of_ble_eq_true rfl) rfl dX6_runScript_64 ?_
              refine v_σ (mk7 σ b (upd (upd f0 0 (nI 0)) 3 (nI (0 + 1))) ((scrB f1 3 g 0).1) (cpF f1 f2 0 (358 * (0)) 358) f3 f4 f5 f6) (congrArg (fun z9 => mk7 σ b (upd (upd f0 0 (nI 0)) 3 (nI (0 + 1))) z9 (cpF f1 f2 0 (358 * (0)) 358) f3 f4 f5 f6) (rfl)) ?_
              refine v_iconst ((-1)) dX6_runScript_67 (by decide +kernel) ?_
              refine v_istore [(6, .int ((-1))), (4, .long (lN 999999999999999)), (0, .ref (G b)), (1, .int (nI 3)), (2, .long (lN g))] dX6_runScript_68 (by decide) rfl ?_
              refine v_locv 6 ((scrB f1 3 g 0).2) 0 [(6, .int ((scrB f1 3 g 0).2)), (4, .long (lN 999999999999999)), (0, .ref (G b)), (1, .int (nI 3)), (2, .long (lN g))] rfl rfl rfl ?_
              refine v_iconst (nI 0) dX6_runScript_70 (by decide +kernel) ?_
              refine v_istore [(7, .int (nI 0)), (6, .int ((scrB f1 3 g 0).2)), (4, .long (lN 999999999999999)), (0, .ref (G b)), (1, .int (nI 3)), (2, .long (lN g))] dX6_runScript_71 (by decide) rfl ?_
              refine v_loc [0, 1, 5, 4, 3] [(7, .int (nI 0)), (6, .int ((scrB f1 3 g 0).2)), (2, .long (lN g)), (1, .int (nI 3)), (0, .ref (G b))] rfl ?_
              refine u_loop1 (fun n (j : Nat) => j + n = 3) (fun (j : Nat) => mk7 σ b (upd (upd f0 0 (nI 0)) 3 (nI (0 + 1))) ((scrB f1 3 g j).1) (cpF f1 f2 0 (358 * (0)) 358) f3 f4 f5 f6) (fun (j : Nat) => [(7, .int (nI j)), (6, .int ((scrB f1 3 g j).2)), (2, .long (lN g)), (1, .int (nI 3)), (0, .ref (G b))]) (3) 0 ((by omega)) ?_
              intro n j hL ih
              refine v_iload 0 dX6_runScript_73 rfl ?_
              refine v_iload_n 3 dX6_runScript_75 rfl rfl ?_
              refine v_icmp_geN 142 (by omega) (by omega) dX6_runScript_76 rfl (fun h76 => ?_) (fun h76 => ?_)
              · skip
                have hjk9 : j = 3 := by omega
                have ek9 : scrB f1 3 g 3 = (scrB f1 3 g j) := by rw [hjk9]
                have ek8 := congrArg Prod.snd ek9
                refine v_σ (mk7 σ b (upd (upd f0 0 (nI 0)) 3 (nI (0 + 1))) ((scrB f1 3 g 3).1) (cpF f1 f2 0 (358 * (0)) 358) f3 f4 f5 f6) (congrArg (fun z9 => mk7 σ b (upd (upd f0 0 (nI 0)) 3 (nI (0 + 1))) z9 (cpF f1 f2 0 (358 * (0)) 358) f3 f4 f5 f6) ((by rw [ek9]))) ?_
                refine v_locv 6 ((scrB f1 3 g 3).2) 1 [(7, .int (nI j)), (6, .int ((scrB f1 3 g 3).2)), (2, .long (lN g)), (1, .int (nI 3)), (0, .ref (G b))] rfl (ek8.symm) rfl ?_
                refine v_aload_n 4 dX6_runScript_142 rfl rfl ?_
                refine u_callVn [] [] 0 ((c_X6_pop lu Dg E N G shp σ hM (upd (upd f0 0 (nI 0)) 3 (nI (0 + 1))) ((scrB f1 3 g 3).1) (cpF f1 f2 0 (358 * (0)) 358) f3 f4 f5 f6 (pd := 0) (by rw [upd_ap, if_pos rfl]) (by omega) f1 (fun i hi => by rw [cpF_in _ _ (by omega) (by omega)]; congr 1; omega)).to rfl (congrArg (fun z9 => mk7 σ b z9 f1 (cpF f1 f2 0 (358 * (0)) 358) f3 f4 f5 f6) hu)) (ci := 6) (C := RX6) (T := TX6) (NF := 13) hM.n hM.s rfl gX6_runScript_X6_pop rfl rfl rfl (by decide +kernel) rfl ⟨Nat.le_of_ble_eq_true rfl, Nat.le_of_ble_eq_true rfl⟩ ⟨Nat.le_of_ble_eq_true rfl, Nat.le_of_ble_eq_true rfl⟩ (Nat.le_of_ble_eq_true rfl) rfl dX6_runScript_143 ?_
                refine v_iload 1 dX6_runScript_146 rfl ?_
                refine v_iret rfl dX6_runScript_148 ⟨mk7 σ b (upd f0 0 (nI 0)) f1 (cpF f1 f2 0 (358 * (0)) 358) f3 f4 f5 f6, rfl, ⟨rfl, _, fun i hi => by omega, rfl⟩⟩
              · skip
                have i1 := Inv.scr hI (n := 3) (g := g) (k := j) (by omega)
                refine v_iload 1 dX6_runScript_79 rfl ?_
                refine v_iconst ((-1)) dX6_runScript_81 (by decide +kernel) ?_
                refine v_icmp_ne 142 dX6_runScript_82 rfl (fun h82 => ?_) (fun h82 => ?_)
                · skip
                  have ek9 : scrB f1 3 g 3 = (scrB f1 3 g j) := scrB_stay (by omega) h82
                  have ek8 := congrArg Prod.snd ek9
                  refine v_σ (mk7 σ b (upd (upd f0 0 (nI 0)) 3 (nI (0 + 1))) ((scrB f1 3 g 3).1) (cpF f1 f2 0 (358 * (0)) 358) f3 f4 f5 f6) (congrArg (fun z9 => mk7 σ b (upd (upd f0 0 (nI 0)) 3 (nI (0 + 1))) z9 (cpF f1 f2 0 (358 * (0)) 358) f3 f4 f5 f6) ((by rw [ek9]))) ?_
                  refine v_locv 6 ((scrB f1 3 g 3).2) 1 [(7, .int (nI j)), (6, .int ((scrB f1 3 g 3).2)), (2, .long (lN g)), (1, .int (nI 3)), (0, .ref (G b))] rfl (ek8.symm) rfl ?_
                  refine v_aload_n 4 dX6_runScript_142 rfl rfl ?_
                  refine u_callVn [] [] 0 ((c_X6_pop lu Dg E N G shp σ hM (upd (upd f0 0 (nI 0)) 3 (nI (0 + 1))) ((scrB f1 3 g 3).1) (cpF f1 f2 0 (358 * (0)) 358) f3 f4 f5 f6 (pd := 0) (by rw [upd_ap, if_pos rfl]) (by omega) f1 (fun i hi => by rw [cpF_in _ _ (by omega) (by omega)]; congr 1; omega)).to rfl (congrArg (fun z9 => mk7 σ b z9 f1 (cpF f1 f2 0 (358 * (0)) 358) f3 f4 f5 f6) hu)) (ci := 6) (C := RX6) (T := TX6) (NF := 13) hM.n hM.s rfl gX6_runScript_X6_pop rfl rfl rfl (by decide +kernel) rfl ⟨Nat.le_of_ble_eq_true rfl, Nat.le_of_ble_eq_true rfl⟩ ⟨Nat.le_of_ble_eq_true rfl, Nat.le_of_ble_eq_true rfl⟩ (Nat.le_of_ble_eq_true rfl) rfl dX6_runScript_143 ?_
                  refine v_iload 1 dX6_runScript_146 rfl ?_
                  refine v_iret rfl dX6_runScript_148 ⟨mk7 σ b (upd f0 0 (nI 0)) f1 (cpF f1 f2 0 (358 * (0)) 358) f3 f4 f5 f6, rfl, ⟨rfl, _, fun i hi => by omega, rfl⟩⟩
                · skip
                  have es : scrB f1 3 g (j + 1) = (succS (scrB f1 3 g j).1 (grp 3 g j), ic (succP (scrB f1 3 g j).1 (grp 3 g j)) (-1) (nI j)) := by
                    show scrStep _ _ (scrB f1 3 g j) = _
                    unfold scrStep
                    rw [ic_t h82]
                  refine v_lload_n 2 dX6_runScript_85 rfl rfl ?_
                  refine v_lstore [(8, .long (lN g)), (7, .int (nI j)), (6, .int ((scrB f1 3 g j).2)), (2, .long (lN g)), (1, .int (nI 3)), (0, .ref (G b))] dX6_runScript_86 (by decide) rfl ?_
                  refine v_iload 1 dX6_runScript_88 rfl ?_
                  refine v_iconst (nI 1) dX6_runScript_90 (by decide +kernel) ?_
                  refine v_iaddN dX6_runScript_91 ?_
                  refine v_istore [(10, .int (nI (j + 1))), (8, .long (lN g)), (7, .int (nI j)), (6, .int ((scrB f1 3 g j).2)), (2, .long (lN g)), (1, .int (nI 3)), (0, .ref (G b))] dX6_runScript_92 (by decide) rfl ?_
                  refine v_loc [0, 1, 2, 3, 4, 5, 6] [(10, .int (nI (j + 1))), (8, .long (lN g)), (7, .int (nI j)), (6, .int ((scrB f1 3 g j).2)), (2, .long (lN g)), (1, .int (nI 3)), (0, .ref (G b))] rfl ?_
                  refine u_loop1 (fun n2 (t : Nat) => j + 1 + t + n2 = 3) (fun (t : Nat) => mk7 σ b (upd (upd f0 0 (nI 0)) 3 (nI (0 + 1))) ((scrB f1 3 g j).1) (cpF f1 f2 0 (358 * (0)) 358) f3 f4 f5 f6) (fun (t : Nat) => [(10, .int (nI (j + 1 + t))), (8, .long (lN (dvG g t))), (7, .int (nI j)), (6, .int ((scrB f1 3 g j).2)), (2, .long (lN g)), (1, .int (nI 3)), (0, .ref (G b))]) (3 - 1 - j) 0 ((by omega)) ?_
                  intro n2 t hN ih2
                  refine v_iload 0 dX6_runScript_94 rfl ?_
                  refine v_iload_n 5 dX6_runScript_96 rfl rfl ?_
                  refine v_icmp_geN 114 (by omega) (by omega) dX6_runScript_97 rfl (fun h97 => ?_) (fun h97 => ?_)
                  · skip
                    have hmk9 : t = 3 - 1 - j := by omega
                    refine v_aload_n 6 dX6_runScript_114 rfl rfl ?_
                    refine v_lload 1 dX6_runScript_115 rfl ?_
                    refine v_ldc2 (v := (100000)) (by decide +kernel) dX6_runScript_117 ?_
                    refine v_st (st' := [.long (lN 100000), .long (lN (dvG g t)), .ref (G b)]) (by first | rfl | decide +kernel) ?_
                    refine v_lrem dX6_runScript_120 (by decide +kernel) ?_
                    refine v_st (st' := [.long (lN (grp 3 g j)), .ref (G b)]) (by rw [pk_lRem (dvG_lt hz _) (by omega) (by omega), dvG_eq, hmk9]; rfl) ?_
                    refine v_l2i dX6_runScript_121 ?_
                    refine v_topi (nI (grp 3 g j)) (lN_i _) ?_
                    refine u_callVv [.int (nI (grp 3 g j))] [] 1 (c_X6_succeeds lu Dg E N G shp σ hM (upd (upd f0 0 (nI 0)) 3 (nI (0 + 1))) ((scrB f1 3 g j).1) (cpF f1 f2 0 (358 * (0)) 358) f3 f4 f5 f6 i1 (g := grp 3 g j) (grp_lt 3 g j) (fun k9 hk9 => ⟨_, i1.goBy (n := k9) (by omega)⟩)) (ci := 6) (C := RX6) (T := TX6) (NF := 13) hM.n hM.s rfl gX6_runScript_X6_succeeds rfl rfl rfl (by decide +kernel) rfl ⟨Nat.le_of_ble_eq_true rfl, Nat.le_of_ble_eq_true rfl⟩ ⟨Nat.le_of_ble_eq_true rfl, Nat.le_of_ble_eq_true rfl⟩ (Nat.le_of_ble_eq_true rfl) rfl dX6_runScript_122 ?_
                    refine v_σ (mk7 σ b (upd (upd f0 0 (nI 0)) 3 (nI (0 + 1))) ((scrB f1 3 g (j + 1)).1) (cpF f1 f2 0 (358 * (0)) 358) f3 f4 f5 f6) (congrArg (fun z9 => mk7 σ b (upd (upd f0 0 (nI 0)) 3 (nI (0 + 1))) z9 (cpF f1 f2 0 (358 * (0)) 358) f3 f4 f5 f6) ((by rw [es]))) ?_
                    refine v_if_eqB 132 dX6_runScript_125 rfl (fun h125 => ?_) (fun h125 => ?_)
                    · skip
                      refine v_iload 2 dX6_runScript_132 rfl ?_
                      refine v_st (st' := [.int ((scrB f1 3 g (j + 1)).2)]) (by rw [es]; show [Value.int _] = [Value.int (ic _ _ _)]; rw [ic_f h125]) ?_
                      refine v_istore [(6, .int ((scrB f1 3 g (j + 1)).2)), (10, .int (nI (j + 1 + t))), (8, .long (lN (dvG g t))), (7, .int (nI j)), (2, .long (lN g)), (1, .int (nI 3)), (0, .ref (G b))] dX6_runScript_134 (by decide) rfl ?_
                      refine v_iincN 3 [(7, .int (nI (j + 1))), (6, .int ((scrB f1 3 g (j + 1)).2)), (10, .int (nI (j + 1 + t))), (8, .long (lN (dvG g t))), (2, .long (lN g)), (1, .int (nI 3)), (0, .ref (G b))] dX6_runScript_136 rfl (by decide) rfl ?_
                      refine v_goto 73 dX6_runScript_139 rfl ?_
                      refine v_loc [0, 1, 4, 5, 6] [(7, .int (nI (j + 1))), (6, .int ((scrB f1 3 g (j + 1)).2)), (2, .long (lN g)), (1, .int (nI 3)), (0, .ref (G b))] rfl ?_
                      exact ih _ (j + 1) (show n - 1 < n by omega) (by omega)
                    · skip
                      refine v_iconst ((-1)) dX6_runScript_128 (by decide +kernel) ?_
                      refine v_goto 134 dX6_runScript_129 rfl ?_
                      refine v_st (st' := [.int ((scrB f1 3 g (j + 1)).2)]) (by rw [es]; show [Value.int _] = [Value.int (ic _ _ _)]; rw [ic_t h125]) ?_
                      refine v_istore [(6, .int ((scrB f1 3 g (j + 1)).2)), (10, .int (nI (j + 1 + t))), (8, .long (lN (dvG g t))), (7, .int (nI j)), (2, .long (lN g)), (1, .int (nI 3)), (0, .ref (G b))] dX6_runScript_134 (by decide) rfl ?_
                      refine v_iincN 3 [(7, .int (nI (j + 1))), (6, .int ((scrB f1 3 g (j + 1)).2)), (10, .int (nI (j + 1 + t))), (8, .long (lN (dvG g t))), (2, .long (lN g)), (1, .int (nI 3)), (0, .ref (G b))] dX6_runScript_136 rfl (by decide) rfl ?_
                      refine v_goto 73 dX6_runScript_139 rfl ?_
                      refine v_loc [0, 1, 4, 5, 6] [(7, .int (nI (j + 1))), (6, .int ((scrB f1 3 g (j + 1)).2)), (2, .long (lN g)), (1, .int (nI 3)), (0, .ref (G b))] rfl ?_
                      exact ih _ (j + 1) (show n - 1 < n by omega) (by omega)
                  · skip
                    refine v_lload 1 dX6_runScript_100 rfl ?_
                    refine v_ldc2 (v := (100000)) (by decide +kernel) dX6_runScript_102 ?_
                    refine v_st (st' := [.long (lN 100000), .long (lN (dvG g t))]) (by first | rfl | decide +kernel) ?_
                    refine v_ldiv dX6_runScript_105 (by decide +kernel) ?_
                    refine v_st (st' := [.long (lN (dvG g (t + 1)))]) (by rw [pk_lDiv (dvG_lt hz _) (by omega) (by omega)]; rfl) ?_
                    refine v_lstore [(8, .long (lN (dvG g (t + 1)))), (10, .int (nI (j + 1 + t))), (7, .int (nI j)), (6, .int ((scrB f1 3 g j).2)), (2, .long (lN g)), (1, .int (nI 3)), (0, .ref (G b))] dX6_runScript_106 (by decide) rfl ?_
                    refine v_iincN 1 [(10, .int (nI (j + 1 + t + 1))), (8, .long (lN (dvG g (t + 1)))), (7, .int (nI j)), (6, .int ((scrB f1 3 g j).2)), (2, .long (lN g)), (1, .int (nI 3)), (0, .ref (G b))] dX6_runScript_108 rfl (by decide) rfl ?_
                    refine v_goto 94 dX6_runScript_111 rfl ?_
                    refine v_loc [0, 1, 2, 3, 4, 5, 6] [(10, .int (nI (j + 1 + t + 1))), (8, .long (lN (dvG g (t + 1)))), (7, .int (nI j)), (6, .int ((scrB f1 3 g j).2)), (2, .long (lN g)), (1, .int (nI 3)), (0, .ref (G b))] rfl ?_
                    exact ih2 _ (t + 1) (show n2 - 1 < n2 by omega) (by omega)
            · skip
              exact absurd rfl h58
    · skip
      omega
  · skip
    omega
