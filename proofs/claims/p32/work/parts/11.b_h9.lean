theorem pers_cp {σ : Nat → Nat → Int32} {xa ya : Nat} : st2 (st2 (st2 (st2 (st2 (st2 (st2 (st2 (st2 σ xa 0 (σ ya 0)) xa 1 (σ ya 1)) xa 2 (σ ya 2)) xa 3 (σ ya 3)) xa 4 (σ ya 4)) xa 5 (σ ya 5)) xa 6 (σ ya 6)) xa 7 (σ ya 7)) xa 8 (σ ya 8) = va_up σ xa (fun k => if k < 9 then σ ya k else σ xa k) := by
  funext n9 k9
  by_cases en : n9 = xa
  · subst en
    rw [va_up_self]
    by_cases h9 : k9 < 9
    · rcases (show k9 = 0 ∨ k9 = 1 ∨ k9 = 2 ∨ k9 = 3 ∨ k9 = 4 ∨ k9 = 5 ∨ k9 = 6 ∨ k9 = 7 ∨ k9 = 8 by omega) with rfl | rfl | rfl | rfl | rfl | rfl | rfl | rfl | rfl <;> simp [st2_eq]
    · rw [if_neg h9]
      simp only [st2_eq, true_and]
      rw [if_neg (by omega), if_neg (by omega), if_neg (by omega), if_neg (by omega), if_neg (by omega), if_neg (by omega), if_neg (by omega), if_neg (by omega), if_neg (by omega)]
  · rw [va_up_ne _ _ en]
    simp only [st2_eq, en, false_and, if_false]
set_option maxRecDepth 100000 in
theorem inX4_copyFrom_X4 : ∀ w ∈ wsX40, w ∈ wsX4_copyFrom := by decide +kernel
set_option maxHeartbeats 4000000 in
set_option maxRecDepth 100000 in
/-- Person.copyFrom -/
theorem c_X4_copyFrom (lu : Launch) (Dg : va_G) (E : Nat → ClassId) (N : Nat) (G : Nat → Nat) (shp : Nat → (Nat → Int32) → va_E) (σ : Nat → Nat → Int32)  {xa ya : Nat} (hx : PersS G shp N xa) (hy : PersS G shp N ya) (hxy : xa ≠ ya)  : CS lu yX4_copyFrom wsX4_copyFrom { frames := 0, cells := 0, slots := 0, locals := 0 } Dg E N G shp σ [.ref (G xa), .ref (G ya)] none (va_up σ xa (fun k => if k < 9 then σ ya k else σ xa k)) := by
  refine CS.of (cc := cX4_copyFrom) (maxL := 2) (ret := none) (by decide) rfl (Nat.le_of_ble_eq_true rfl) ?_
  intro p_ e_ s_ m_ args_ below_ meth_ c_
  refine v_eq (pc' := 0) (st' := []) rfl rfl ?_
  refine v_loc [0, 1] [(0, .ref (G xa)), (1, .ref (G ya))] rfl ?_
  refine v_aload_n 0 dX4_copyFrom_0 rfl rfl ?_
  refine v_aload_n 1 dX4_copyFrom_1 rfl rfl ?_
  refine u_geti (k := 0) (C := RX4) (T := TX4) (NF := 9) hy.1 hy.2 rfl rfl inX4_copyFrom_X4 (by decide) (by decide +kernel) rfl dX4_copyFrom_2 ?_
  refine v_topi (σ ya 0) (rfl) ?_
  refine u_puti (k := 0) (C := RX4) (T := TX4) (NF := 9) (ty := .int) hx.1 hx.2 rfl rfl inX4_copyFrom_X4 tyX4 tyX4_ok nmX4 (by decide) (by decide +kernel) rfl rfl (by decide +kernel) rfl rfl dX4_copyFrom_5 ?_
  generalize hσ1 : st2 σ xa 0 (σ ya 0) = σ1
  refine v_aload_n 0 dX4_copyFrom_8 rfl rfl ?_
  refine v_aload_n 1 dX4_copyFrom_9 rfl rfl ?_
  refine u_geti (k := 1) (C := RX4) (T := TX4) (NF := 9) hy.1 hy.2 rfl rfl inX4_copyFrom_X4 (by decide) (by decide +kernel) rfl dX4_copyFrom_10 ?_
  refine v_topi (σ ya 1) ((by subst_vars; simp only [st2_eq]; rw [if_neg (fun z9 => hxy z9.1.symm)])) ?_
  refine u_puti (k := 1) (C := RX4) (T := TX4) (NF := 9) (ty := .int) hx.1 hx.2 rfl rfl inX4_copyFrom_X4 tyX4 tyX4_ok nmX4 (by decide) (by decide +kernel) rfl rfl (by decide +kernel) rfl rfl dX4_copyFrom_13 ?_
  generalize hσ2 : st2 σ1 xa 1 (σ ya 1) = σ2
  refine v_aload_n 0 dX4_copyFrom_16 rfl rfl ?_
  refine v_aload_n 1 dX4_copyFrom_17 rfl rfl ?_
  refine u_geti (k := 2) (C := RX4) (T := TX4) (NF := 9) hy.1 hy.2 rfl rfl inX4_copyFrom_X4 (by decide) (by decide +kernel) rfl dX4_copyFrom_18 ?_
  refine v_topi (σ ya 2) ((by subst_vars; simp only [st2_eq]; rw [if_neg (fun z9 => hxy z9.1.symm), if_neg (fun z9 => hxy z9.1.symm)])) ?_
  refine u_puti (k := 2) (C := RX4) (T := TX4) (NF := 9) (ty := .int) hx.1 hx.2 rfl rfl inX4_copyFrom_X4 tyX4 tyX4_ok nmX4 (by decide) (by decide +kernel) rfl rfl (by decide +kernel) rfl rfl dX4_copyFrom_21 ?_
  generalize hσ3 : st2 σ2 xa 2 (σ ya 2) = σ3
  refine v_aload_n 0 dX4_copyFrom_24 rfl rfl ?_
  refine v_aload_n 1 dX4_copyFrom_25 rfl rfl ?_
  refine u_geti (k := 3) (C := RX4) (T := TX4) (NF := 9) hy.1 hy.2 rfl rfl inX4_copyFrom_X4 (by decide) (by decide +kernel) rfl dX4_copyFrom_26 ?_
  refine v_topi (σ ya 3) ((by subst_vars; simp only [st2_eq]; rw [if_neg (fun z9 => hxy z9.1.symm), if_neg (fun z9 => hxy z9.1.symm), if_neg (fun z9 => hxy z9.1.symm)])) ?_
  refine u_puti (k := 3) (C := RX4) (T := TX4) (NF := 9) (ty := .int) hx.1 hx.2 rfl rfl inX4_copyFrom_X4 tyX4 tyX4_ok nmX4 (by decide) (by decide +kernel) rfl rfl (by decide +kernel) rfl rfl dX4_copyFrom_29 ?_
  generalize hσ4 : st2 σ3 xa 3 (σ ya 3) = σ4
  refine v_aload_n 0 dX4_copyFrom_32 rfl rfl ?_
  refine v_aload_n 1 dX4_copyFrom_33 rfl rfl ?_
  refine u_geti (k := 4) (C := RX4) (T := TX4) (NF := 9) hy.1 hy.2 rfl rfl inX4_copyFrom_X4 (by decide) (by decide +kernel) rfl dX4_copyFrom_34 ?_
  refine v_topi (σ ya 4) ((by subst_vars; simp only [st2_eq]; rw [if_neg (fun z9 => hxy z9.1.symm), if_neg (fun z9 => hxy z9.1.symm), if_neg (fun z9 => hxy z9.1.symm), if_neg (fun z9 => hxy z9.1.symm)])) ?_
  refine u_puti (k := 4) (C := RX4) (T := TX4) (NF := 9) (ty := .int) hx.1 hx.2 rfl rfl inX4_copyFrom_X4 tyX4 tyX4_ok nmX4 (by decide) (by decide +kernel) rfl rfl (by decide +kernel) rfl rfl dX4_copyFrom_37 ?_
  generalize hσ5 : st2 σ4 xa 4 (σ ya 4) = σ5
  refine v_aload_n 0 dX4_copyFrom_40 rfl rfl ?_
  refine v_aload_n 1 dX4_copyFrom_41 rfl rfl ?_
  refine u_geti (k := 5) (C := RX4) (T := TX4) (NF := 9) hy.1 hy.2 rfl rfl inX4_copyFrom_X4 (by decide) (by decide +kernel) rfl dX4_copyFrom_42 ?_
  refine v_topi (σ ya 5) ((by subst_vars; simp only [st2_eq]; rw [if_neg (fun z9 => hxy z9.1.symm), if_neg (fun z9 => hxy z9.1.symm), if_neg (fun z9 => hxy z9.1.symm), if_neg (fun z9 => hxy z9.1.symm), if_neg (fun z9 => hxy z9.1.symm)])) ?_
  refine u_puti (k := 5) (C := RX4) (T := TX4) (NF := 9) (ty := .int) hx.1 hx.2 rfl rfl inX4_copyFrom_X4 tyX4 tyX4_ok nmX4 (by decide) (by decide +kernel) rfl rfl (by decide +kernel) rfl rfl dX4_copyFrom_45 ?_
  generalize hσ6 : st2 σ5 xa 5 (σ ya 5) = σ6
  refine v_aload_n 0 dX4_copyFrom_48 rfl rfl ?_
  refine v_aload_n 1 dX4_copyFrom_49 rfl rfl ?_
  refine u_geti (k := 6) (C := RX4) (T := TX4) (NF := 9) hy.1 hy.2 rfl rfl inX4_copyFrom_X4 (by decide) (by decide +kernel) rfl dX4_copyFrom_50 ?_
  refine v_topi (σ ya 6) ((by subst_vars; simp only [st2_eq]; rw [if_neg (fun z9 => hxy z9.1.symm), if_neg (fun z9 => hxy z9.1.symm), if_neg (fun z9 => hxy z9.1.symm), if_neg (fun z9 => hxy z9.1.symm), if_neg (fun z9 => hxy z9.1.symm), if_neg (fun z9 => hxy z9.1.symm)])) ?_
  refine u_puti (k := 6) (C := RX4) (T := TX4) (NF := 9) (ty := .int) hx.1 hx.2 rfl rfl inX4_copyFrom_X4 tyX4 tyX4_ok nmX4 (by decide) (by decide +kernel) rfl rfl (by decide +kernel) rfl rfl dX4_copyFrom_53 ?_
  generalize hσ7 : st2 σ6 xa 6 (σ ya 6) = σ7
  refine v_aload_n 0 dX4_copyFrom_56 rfl rfl ?_
  refine v_aload_n 1 dX4_copyFrom_57 rfl rfl ?_
  refine u_geti (k := 7) (C := RX4) (T := TX4) (NF := 9) hy.1 hy.2 rfl rfl inX4_copyFrom_X4 (by decide) (by decide +kernel) rfl dX4_copyFrom_58 ?_
  refine v_topi (σ ya 7) ((by subst_vars; simp only [st2_eq]; rw [if_neg (fun z9 => hxy z9.1.symm), if_neg (fun z9 => hxy z9.1.symm), if_neg (fun z9 => hxy z9.1.symm), if_neg (fun z9 => hxy z9.1.symm), if_neg (fun z9 => hxy z9.1.symm), if_neg (fun z9 => hxy z9.1.symm), if_neg (fun z9 => hxy z9.1.symm)])) ?_
  refine u_puti (k := 7) (C := RX4) (T := TX4) (NF := 9) (ty := .int) hx.1 hx.2 rfl rfl inX4_copyFrom_X4 tyX4 tyX4_ok nmX4 (by decide) (by decide +kernel) rfl rfl (by decide +kernel) rfl rfl dX4_copyFrom_61 ?_
  generalize hσ8 : st2 σ7 xa 7 (σ ya 7) = σ8
  refine v_aload_n 0 dX4_copyFrom_64 rfl rfl ?_
  refine v_aload_n 1 dX4_copyFrom_65 rfl rfl ?_
  refine u_geti (k := 8) (C := RX4) (T := TX4) (NF := 9) hy.1 hy.2 rfl rfl inX4_copyFrom_X4 (by decide) (by decide +kernel) rfl dX4_copyFrom_66 ?_
  refine v_topi (σ ya 8) ((by subst_vars; simp only [st2_eq]; rw [if_neg (fun z9 => hxy z9.1.symm), if_neg (fun z9 => hxy z9.1.symm), if_neg (fun z9 => hxy z9.1.symm), if_neg (fun z9 => hxy z9.1.symm), if_neg (fun z9 => hxy z9.1.symm), if_neg (fun z9 => hxy z9.1.symm), if_neg (fun z9 => hxy z9.1.symm), if_neg (fun z9 => hxy z9.1.symm)])) ?_
  refine u_puti (k := 8) (C := RX4) (T := TX4) (NF := 9) (ty := .int) hx.1 hx.2 rfl rfl inX4_copyFrom_X4 tyX4 tyX4_ok nmX4 (by decide) (by decide +kernel) rfl rfl (by decide +kernel) rfl rfl dX4_copyFrom_69 ?_
  generalize hσ9 : st2 σ8 xa 8 (σ ya 8) = σ9
  refine v_vret rfl dX4_copyFrom_72 ⟨rfl, congrArg (φ shp) ?_⟩
  · subst hσ1; subst hσ2; subst hσ3; subst hσ4; subst hσ5; subst hσ6; subst hσ7; subst hσ8; subst hσ9; exact pers_cp
theorem line_cp {σ : Nat → Nat → Int32} {xa ya : Nat} (hxy : xa ≠ ya) (hxy1 : xa + 1 ≠ ya + 1) (hxy2 : xa + 1 ≠ ya) (hxy3 : ya + 1 ≠ xa) :
    (let τ := st2 (st2 (st2 (st2 σ xa 0 (σ ya 0)) xa 1 (σ ya 1)) xa 2 (σ ya 2)) xa 3 (σ ya 3)
     va_up τ (xa + 1) (va_cpy (τ (ya + 1)) (τ (xa + 1)) 0 0 12)) = va_up (va_up σ xa (fun k => if k < 4 then σ ya k else σ xa k)) (xa + 1) (fun k => if k < 12 then σ (ya + 1) k else σ (xa + 1) k) := by
  funext n9 k9
  have h1 : ∀ (m k : Nat), m ≠ xa → st2 (st2 (st2 (st2 σ xa 0 (σ ya 0)) xa 1 (σ ya 1)) xa 2 (σ ya 2)) xa 3 (σ ya 3) m k = σ m k := by
    intro m k hm
    simp only [st2_eq, hm, false_and, if_false]
  by_cases e1 : n9 = xa + 1
  · subst e1
    rw [va_up_self, va_up_self]
    by_cases hk : k9 < 12
    · rw [pk_cpy_in (Nat.zero_le _) (by omega), if_pos hk, h1 _ _ hxy3]; congr 1; omega
    · rw [pk_cpy_out (by omega), if_neg hk, h1 _ _ (by omega)]
  · rw [va_up_ne _ _ e1, va_up_ne _ _ e1]
    by_cases e2 : n9 = xa
    · subst e2
      rw [va_up_self]
      simp only [st2_eq, true_and]
      by_cases k3 : k9 = 3
      · rw [if_pos k3, if_pos (by omega), k3]
      · rw [if_neg k3]
        by_cases k2 : k9 = 2
        · rw [if_pos k2, if_pos (by omega), k2]
        · rw [if_neg k2]
          by_cases k1 : k9 = 1
          · rw [if_pos k1, if_pos (by omega), k1]
          · rw [if_neg k1]
            by_cases k0 : k9 = 0
            · rw [if_pos k0, if_pos (by omega), k0]
            · rw [if_neg k0, if_neg (by omega)]
    · rw [va_up_ne _ _ e2, h1 _ _ e2]
set_option maxRecDepth 100000 in
theorem inX3_copyFrom_X3 : ∀ w ∈ wsX30, w ∈ wsX3_copyFrom := by decide +kernel
set_option maxHeartbeats 4000000 in
set_option maxRecDepth 100000 in
/-- Line.copyFrom -/
theorem c_X3_copyFrom (lu : Launch) (Dg : va_G) (E : Nat → ClassId) (N : Nat) (G : Nat → Nat) (shp : Nat → (Nat → Int32) → va_E) (σ : Nat → Nat → Int32)  {xa ya : Nat} (hx : LineS E G shp N xa) (hy : LineS E G shp N ya) (hxy : xa ≠ ya) (hxy1 : xa + 1 ≠ ya + 1) (hxy2 : xa + 1 ≠ ya) (hxy3 : ya + 1 ≠ xa)  : CS lu yX3_copyFrom wsX3_copyFrom { frames := 1, cells := 0, slots := 0, locals := 40 } Dg E N G shp σ [.ref (G xa), .ref (G ya)] none (va_up (va_up σ xa (fun k => if k < 4 then σ ya k else σ xa k)) (xa + 1) (fun k => if k < 12 then σ (ya + 1) k else σ (xa + 1) k)) := by
  refine CS.of (cc := cX3_copyFrom) (maxL := 2) (ret := none) (by decide) rfl (Nat.le_of_ble_eq_true rfl) ?_
  intro p_ e_ s_ m_ args_ below_ meth_ c_
  refine v_eq (pc' := 0) (st' := []) rfl rfl ?_
  refine v_loc [0, 1] [(0, .ref (G xa)), (1, .ref (G ya))] rfl ?_
  refine v_aload_n 0 dX3_copyFrom_0 rfl rfl ?_
  refine v_aload_n 1 dX3_copyFrom_1 rfl rfl ?_
  refine u_geti (k := 0) (C := RX3) (T := TX3) (NF := 5) hy.n hy.2.1 rfl rfl inX3_copyFrom_X3 (by decide) (by decide +kernel) rfl dX3_copyFrom_2 ?_
  refine v_topi (σ ya 0) (rfl) ?_
  refine u_puti (k := 0) (C := RX3) (T := TX3) (NF := 5) (ty := .int) hx.n hx.2.1 rfl rfl inX3_copyFrom_X3 tyX3 tyX3_ok nmX3 (by decide) (by decide +kernel) rfl rfl (by decide +kernel) rfl rfl dX3_copyFrom_5 ?_
  generalize hσ1 : st2 σ xa 0 (σ ya 0) = σ1
  refine v_aload_n 0 dX3_copyFrom_8 rfl rfl ?_
  refine v_aload_n 1 dX3_copyFrom_9 rfl rfl ?_
  refine u_geti (k := 1) (C := RX3) (T := TX3) (NF := 5) hy.n hy.2.1 rfl rfl inX3_copyFrom_X3 (by decide) (by decide +kernel) rfl dX3_copyFrom_10 ?_
  refine v_topi (σ ya 1) ((by subst_vars; simp only [st2_eq]; rw [if_neg (fun z9 => hxy z9.1.symm)])) ?_
  refine u_puti (k := 1) (C := RX3) (T := TX3) (NF := 5) (ty := .int) hx.n hx.2.1 rfl rfl inX3_copyFrom_X3 tyX3 tyX3_ok nmX3 (by decide) (by decide +kernel) rfl rfl (by decide +kernel) rfl rfl dX3_copyFrom_13 ?_
  generalize hσ2 : st2 σ1 xa 1 (σ ya 1) = σ2
  refine v_aload_n 0 dX3_copyFrom_16 rfl rfl ?_
  refine v_aload_n 1 dX3_copyFrom_17 rfl rfl ?_
  refine u_geti (k := 2) (C := RX3) (T := TX3) (NF := 5) hy.n hy.2.1 rfl rfl inX3_copyFrom_X3 (by decide) (by decide +kernel) rfl dX3_copyFrom_18 ?_
  refine v_topi (σ ya 2) ((by subst_vars; simp only [st2_eq]; rw [if_neg (fun z9 => hxy z9.1.symm), if_neg (fun z9 => hxy z9.1.symm)])) ?_
  refine u_puti (k := 2) (C := RX3) (T := TX3) (NF := 5) (ty := .int) hx.n hx.2.1 rfl rfl inX3_copyFrom_X3 tyX3 tyX3_ok nmX3 (by decide) (by decide +kernel) rfl rfl (by decide +kernel) rfl rfl dX3_copyFrom_21 ?_
  generalize hσ3 : st2 σ2 xa 2 (σ ya 2) = σ3
  refine v_aload_n 0 dX3_copyFrom_24 rfl rfl ?_
  refine v_aload_n 1 dX3_copyFrom_25 rfl rfl ?_
  refine u_geti (k := 3) (C := RX3) (T := TX3) (NF := 5) hy.n hy.2.1 rfl rfl inX3_copyFrom_X3 (by decide) (by decide +kernel) rfl dX3_copyFrom_26 ?_
  refine v_topi (σ ya 3) ((by subst_vars; simp only [st2_eq]; rw [if_neg (fun z9 => hxy z9.1.symm), if_neg (fun z9 => hxy z9.1.symm), if_neg (fun z9 => hxy z9.1.symm)])) ?_
  refine u_puti (k := 3) (C := RX3) (T := TX3) (NF := 5) (ty := .int) hx.n hx.2.1 rfl rfl inX3_copyFrom_X3 tyX3 tyX3_ok nmX3 (by decide) (by decide +kernel) rfl rfl (by decide +kernel) rfl rfl dX3_copyFrom_29 ?_
  generalize hσ4 : st2 σ3 xa 3 (σ ya 3) = σ4
  refine v_aload_n 1 dX3_copyFrom_32 rfl rfl ?_
  refine u_getr (k := 4) (C := RX3) (T := TX3) (NF := 5) hy.n hy.2.1 rfl rfl inX3_copyFrom_X3 (by decide) (by decide +kernel) rfl dX3_copyFrom_33 ?_
  refine v_iconst (nI 0) dX3_copyFrom_36 (by decide +kernel) ?_
  refine v_aload_n 0 dX3_copyFrom_37 rfl rfl ?_
  refine u_getr (k := 4) (C := RX3) (T := TX3) (NF := 5) hx.n hx.2.1 rfl rfl inX3_copyFrom_X3 (by decide) (by decide +kernel) rfl dX3_copyFrom_38 ?_
  refine v_iconst (nI 0) dX3_copyFrom_41 (by decide +kernel) ?_
  refine v_aload_n 0 dX3_copyFrom_42 rfl rfl ?_
  refine u_getr (k := 4) (C := RX3) (T := TX3) (NF := 5) hx.n hx.2.1 rfl rfl inX3_copyFrom_X3 (by decide) (by decide +kernel) rfl dX3_copyFrom_43 ?_
  refine u_alenI 0 hx.1 hx.2.2 rfl dX3_copyFrom_46 ?_
  refine u_copy0 (L0 := 12) (L1 := 12) hy.1 hx.1 hy.2.2 hx.2.2 (by omega) (by omega) (by omega) (by decide +kernel) (by decide +kernel) (by decide +kernel) (by decide +kernel) (Nat.le_of_ble_eq_true rfl) (Nat.le_of_ble_eq_true rfl) dX3_copyFrom_47 ?_
  generalize hσ5 : va_up σ4 (xa + 1) (va_cpy (σ4 (ya + 1)) (σ4 (xa + 1)) 0 0 12) = σ5
  refine v_vret rfl dX3_copyFrom_50 ⟨rfl, congrArg (φ shp) ?_⟩
  · subst hσ1; subst hσ2; subst hσ3; subst hσ4; subst hσ5; exact line_cp hxy hxy1 hxy2 hxy3
theorem CS.eqS {l : Launch} {y : MethodName} {ws : List Cond} {rm : Room} {D : va_G} {E : Nat → ClassId} {N : Nat} {G : Nat → Nat} {shp : Nat → (Nat → Int32) → va_E} {σ τ : Nat → Nat → Int32} {vargs : List Value} {v : Option Value} (h : CS l y ws rm D E N G shp τ vargs v τ) (e : σ = τ) : CS l y ws rm D E N G shp σ vargs v σ := by
  rw [e]; exact h
/-- b after its head, its settings, L lines and P persons have been taken from d -/
def cpS (σ : Nat → Nat → Int32) (b : Nat) (c d : Nat → Int32) (L P : Nat) : Nat → Nat → Int32 := fun n => if n = b then hallF d else if n = b + 1 then setgF d else if b + 7 ≤ n ∧ n < b + 7 + 2 * L then (if (n - (b + 7)) % 2 = 0 then lineF d ((n - (b + 7)) / 2) else rowF d ((n - (b + 7)) / 2)) else if b + 13 ≤ n ∧ n < b + 13 + P then persF d (n - (b + 13)) else hs σ b c n
theorem cpS_full (σ : Nat → Nat → Int32) (b : Nat) (c d : Nat → Int32) : cpS σ b c d 3 30 = hs σ b d := by
  funext n
  unfold cpS hs
  repeat' split
  all_goals first | rfl | omega
theorem cpS_line (σ : Nat → Nat → Int32) (b : Nat) (c d : Nat → Int32) {l : Nat} (hl : l < 3) (τ : Nat → Nat → Int32) (x : Nat) (h1 : τ x = lineF d l) (h2 : τ (x + 1) = rowF d l) (hlc : ∀ k, 4 ≤ k → lineF d l k = 0) :
    va_up (va_up (cpS σ b c d l 0) (b + 7 + 2 * l) (fun k => if k < 4 then τ x k else cpS σ b c d l 0 (b + 7 + 2 * l) k)) (b + 7 + 2 * l + 1) (fun k => if k < 12 then τ (x + 1) k else cpS σ b c d l 0 (b + 7 + 2 * l + 1) k) = cpS σ b c d (l + 1) 0 := by
  have hc0 : cpS σ b c d l 0 (b + 7 + 2 * l) = lineF c l := by
    unfold cpS; rw [if_neg (by omega), if_neg (by omega), if_neg (by omega), if_neg (by omega), hs_l hl]
  have hc1 : cpS σ b c d l 0 (b + 7 + 2 * l + 1) = rowF c l := by
    unfold cpS; rw [if_neg (by omega), if_neg (by omega), if_neg (by omega), if_neg (by omega), hs_r hl]
  rw [hc0, hc1, h1, h2]
  funext n
  by_cases e1 : n = b + 7 + 2 * l + 1
  · subst e1
    rw [va_up_self]
    unfold cpS
    rw [if_neg (by omega), if_neg (by omega), if_pos (by omega), if_neg (by omega), show (b + 7 + 2 * l + 1 - (b + 7)) / 2 = l by omega]
    funext k
    unfold rowF
    by_cases hk : k < 12
    · rw [if_pos hk]
    · simp only [if_neg hk]
  · rw [va_up_ne _ _ e1]
    by_cases e2 : n = b + 7 + 2 * l
    · subst e2
      rw [va_up_self]
      unfold cpS
      rw [if_neg (by omega), if_neg (by omega), if_pos (by omega), if_pos (by omega), show (b + 7 + 2 * l - (b + 7)) / 2 = l by omega]
      funext k
      by_cases hk : k < 4
      · rw [if_pos hk]
      · rw [if_neg hk, hlc k (by omega)]
        unfold lineF
        rw [if_neg (by omega), if_neg (by omega), if_neg (by omega), if_neg (by omega)]
    · rw [va_up_ne _ _ e2]
      unfold cpS
      repeat' split
      all_goals first | rfl | omega
theorem cpS_pers (σ : Nat → Nat → Int32) (b : Nat) (c d : Nat → Int32) {p : Nat} (hp : p < 30) (τ : Nat → Nat → Int32) (x : Nat) (h1 : τ x = persF d p) (hpc : ∀ (c : Nat → Int32) k, 9 ≤ k → persF c p k = 0) :
    va_up (cpS σ b c d 3 p) (b + 13 + p) (fun k => if k < 9 then τ x k else cpS σ b c d 3 p (b + 13 + p) k) = cpS σ b c d 3 (p + 1) := by
  have hc0 : cpS σ b c d 3 p (b + 13 + p) = persF c p := by
    unfold cpS; rw [if_neg (by omega), if_neg (by omega), if_neg (by omega), if_neg (by omega), hs_p hp]
  rw [hc0, h1]
  funext n
  by_cases e2 : n = b + 13 + p
  · subst e2
    rw [va_up_self]
    unfold cpS
    rw [if_neg (by omega), if_neg (by omega), if_neg (by omega), if_pos (by omega), show b + 13 + p - (b + 13) = p by omega]
    funext k
    by_cases hk : k < 9
    · rw [if_pos hk]
    · rw [if_neg hk, hpc c k (by omega), hpc d k (by omega)]
  · rw [va_up_ne _ _ e2]
    unfold cpS
    repeat' split
    all_goals first | rfl | omega
theorem cpS_out {σ : Nat → Nat → Int32} {b : Nat} {c d : Nat → Int32} {L P n : Nat} (h : n < b ∨ b + 43 ≤ n) (hL : L ≤ 3) (hP : P ≤ 30) : cpS σ b c d L P n = σ n := by
  unfold cpS
  rw [if_neg (by omega), if_neg (by omega), if_neg (by omega), if_neg (by omega), hs_out (by omega)]
theorem cpS_0 (σ : Nat → Nat → Int32) (b : Nat) (c d : Nat → Int32) (τ : Nat → Nat → Int32) (hτ : ∀ n, n ≠ b → n ≠ b + 1 → τ n = hs σ b c n) (h0 : τ b = hallF d) (h1 : τ (b + 1) = setgF d) : τ = cpS σ b c d 0 0 := by
  funext n
  unfold cpS
  by_cases e : n = b
  · rw [if_pos e, e, h0]
  · by_cases e1 : n = b + 1
    · rw [if_neg e, if_pos e1, e1, h1]
    · rw [if_neg e, if_neg e1, if_neg (by omega), if_neg (by omega), hτ n e e1]
theorem lineF_0 (d : Nat → Int32) (l k : Nat) (h : 4 ≤ k) : lineF d l k = 0 := by
  unfold lineF; rw [if_neg (by omega), if_neg (by omega), if_neg (by omega), if_neg (by omega)]
theorem persF_0 (d : Nat → Int32) (p k : Nat) (h : 9 ≤ k) : persF d p k = 0 := by
  unfold persF
  rw [if_neg (by omega), if_neg (by omega), if_neg (by omega), if_neg (by omega), if_neg (by omega), if_neg (by omega), if_neg (by omega), if_neg (by omega), if_neg (by omega)]
/-- a leaf's contract over a state that is the wanted one in all that the leaf reads -/
theorem cpS_hs {σ : Nat → Nat → Int32} {b o : Nat} {c d : Nat → Int32} {L P : Nat} (hap : b + 43 ≤ o ∨ o + 43 ≤ b) (hL : L ≤ 3) (hP : P ≤ 30) : cpS (hs σ o d) b c d L P = hs (cpS (hs σ o d) b c d L P) o d := by
  funext n
  by_cases h1 : n < o ∨ (o + 2 ≤ n ∧ n < o + 7) ∨ o + 43 ≤ n
  · rw [hs_out h1]
  · rw [cpS_out (by omega) hL hP]
    exact hs_cell h1
theorem hall_cp {σ : Nat → Nat → Int32} {b o : Nat} {c d : Nat → Int32} (hap : b + 43 ≤ o ∨ o + 43 ≤ b) :
    (let τ := st2 (st2 (st2 (st2 (st2 (st2 (hs (hs σ b c) o d) b 0 (d 1)) b 1 (d 2)) b 2 (d 0)) b 3 (d 3)) b 4 (d 4)) b 5 (d 5)
     va_up τ (b + 1) (va_cpy (τ (o + 1)) (τ (b + 1)) 0 0 4)) = cpS (hs σ o d) b c d 0 0 := by
  have hne : ∀ (m k : Nat), m ≠ b → st2 (st2 (st2 (st2 (st2 (st2 (hs (hs σ b c) o d) b 0 (d 1)) b 1 (d 2)) b 2 (d 0)) b 3 (d 3)) b 4 (d 4)) b 5 (d 5) m k = hs (hs σ b c) o d m k := by
    intro m k hm
    simp only [st2_eq, hm, false_and, if_false]
  refine cpS_0 _ _ _ _ _ (fun n h1 h2 => ?_) ?_ ?_
  · rw [va_up_ne _ _ h2]
    funext k
    rw [hne n k h1, hs_comm hap]
  · rw [va_up_ne _ _ (by omega)]
    funext k
    simp only [st2_eq, true_and]
    have hb : hs (hs σ b c) o d b = hallF c := by rw [hs_comm hap, hs_b]
    rw [hb]
    unfold hallF
    repeat' split
    all_goals first | rfl | omega
  · rw [va_up_self]
    funext k
    by_cases hk : k < 4
    · rw [pk_cpy_in (Nat.zero_le _) (by omega), hne _ _ (by omega), hs_1, show 0 + (k - 0) = k by omega]
    · rw [pk_cpy_out (by omega), hne _ _ (by omega), hs_comm hap, hs_1]
      unfold setgF
      rw [if_neg hk, if_neg hk]
set_option maxRecDepth 100000 in
theorem inX1_copyFrom_X1 : ∀ w ∈ wsX10, w ∈ wsX1_copyFrom := by decide +kernel
set_option maxHeartbeats 4000000 in
set_option maxRecDepth 100000 in
/-- Hall.copyFrom -/
theorem c_X1_copyFrom (lu : Launch) (Dg : va_G) (E : Nat → ClassId) (N : Nat) (G : Nat → Nat) (shp : Nat → (Nat → Int32) → va_E) (σ : Nat → Nat → Int32)  {b : Nat} (hH : HallS E G shp N b) {o : Nat} (hO : HallS E G shp N o) (hap : b + 43 ≤ o ∨ o + 43 ≤ b) (c d : Nat → Int32)  : CS lu yX1_copyFrom wsX1_copyFrom { frames := 2, cells := 0, slots := 0, locals := 61 } Dg E N G shp (hs (hs σ b c) o d) [.ref (G b), .ref (G o)] none (hs (hs σ o d) b d) := by
  refine CS.of (cc := cX1_copyFrom) (maxL := 3) (ret := none) (by decide) rfl (Nat.le_of_ble_eq_true rfl) ?_
  intro p_ e_ s_ m_ args_ below_ meth_ c_
  refine v_eq (pc' := 0) (st' := []) rfl rfl ?_
  refine v_loc [0, 1] [(0, .ref (G b)), (1, .ref (G o))] rfl ?_
  refine v_aload_n 0 dX1_copyFrom_0 rfl rfl ?_
  refine v_aload_n 1 dX1_copyFrom_1 rfl rfl ?_
  refine u_geti (k := 0) (C := RX1) (T := TX1) (NF := 11) hO.n hO.s rfl rfl inX1_copyFrom_X1 (by decide) (by decide +kernel) rfl dX1_copyFrom_2 ?_
  refine v_topi (d 1) ((by rw [hs_b]; rfl)) ?_
  refine u_puti (k := 0) (C := RX1) (T := TX1) (NF := 11) (ty := .int) hH.n hH.s rfl rfl inX1_copyFrom_X1 tyX1 tyX1_ok nmX1 (by decide) (by decide +kernel) rfl rfl (by decide +kernel) rfl rfl dX1_copyFrom_5 ?_
  generalize hσ1 : st2 (hs (hs σ b c) o d) b 0 (d 1) = σ1
  refine v_aload_n 0 dX1_copyFrom_8 rfl rfl ?_
  refine v_aload_n 1 dX1_copyFrom_9 rfl rfl ?_
  refine u_geti (k := 1) (C := RX1) (T := TX1) (NF := 11) hO.n hO.s rfl rfl inX1_copyFrom_X1 (by decide) (by decide +kernel) rfl dX1_copyFrom_10 ?_
  refine v_topi (d 2) ((by subst_vars; simp only [st2_eq]; rw [if_neg (fun z9 => (show o ≠ b by omega) z9.1)]; rw [hs_b]; rfl)) ?_
  refine u_puti (k := 1) (C := RX1) (T := TX1) (NF := 11) (ty := .int) hH.n hH.s rfl rfl inX1_copyFrom_X1 tyX1 tyX1_ok nmX1 (by decide) (by decide +kernel) rfl rfl (by decide +kernel) rfl rfl dX1_copyFrom_13 ?_
  generalize hσ2 : st2 σ1 b 1 (d 2) = σ2
  refine v_aload_n 0 dX1_copyFrom_16 rfl rfl ?_
  refine v_aload_n 1 dX1_copyFrom_17 rfl rfl ?_
  refine u_geti (k := 2) (C := RX1) (T := TX1) (NF := 11) hO.n hO.s rfl rfl inX1_copyFrom_X1 (by decide) (by decide +kernel) rfl dX1_copyFrom_18 ?_
  refine v_topi (d 0) ((by subst_vars; simp only [st2_eq]; rw [if_neg (fun z9 => (show o ≠ b by omega) z9.1), if_neg (fun z9 => (show o ≠ b by omega) z9.1)]; rw [hs_b]; rfl)) ?_
  refine u_puti (k := 2) (C := RX1) (T := TX1) (NF := 11) (ty := .int) hH.n hH.s rfl rfl inX1_copyFrom_X1 tyX1 tyX1_ok nmX1 (by decide) (by decide +kernel) rfl rfl (by decide +kernel) rfl rfl dX1_copyFrom_21 ?_
  generalize hσ3 : st2 σ2 b 2 (d 0) = σ3
  refine v_aload_n 0 dX1_copyFrom_24 rfl rfl ?_
  refine v_aload_n 1 dX1_copyFrom_25 rfl rfl ?_
  refine u_geti (k := 3) (C := RX1) (T := TX1) (NF := 11) hO.n hO.s rfl rfl inX1_copyFrom_X1 (by decide) (by decide +kernel) rfl dX1_copyFrom_26 ?_
  refine v_topi (d 3) ((by subst_vars; simp only [st2_eq]; rw [if_neg (fun z9 => (show o ≠ b by omega) z9.1), if_neg (fun z9 => (show o ≠ b by omega) z9.1), if_neg (fun z9 => (show o ≠ b by omega) z9.1)]; rw [hs_b]; rfl)) ?_
  refine u_puti (k := 3) (C := RX1) (T := TX1) (NF := 11) (ty := .int) hH.n hH.s rfl rfl inX1_copyFrom_X1 tyX1 tyX1_ok nmX1 (by decide) (by decide +kernel) rfl rfl (by decide +kernel) rfl rfl dX1_copyFrom_29 ?_
  generalize hσ4 : st2 σ3 b 3 (d 3) = σ4
  refine v_aload_n 0 dX1_copyFrom_32 rfl rfl ?_
  refine v_aload_n 1 dX1_copyFrom_33 rfl rfl ?_
  refine u_geti (k := 4) (C := RX1) (T := TX1) (NF := 11) hO.n hO.s rfl rfl inX1_copyFrom_X1 (by decide) (by decide +kernel) rfl dX1_copyFrom_34 ?_
  refine v_topi (d 4) ((by subst_vars; simp only [st2_eq]; rw [if_neg (fun z9 => (show o ≠ b by omega) z9.1), if_neg (fun z9 => (show o ≠ b by omega) z9.1), if_neg (fun z9 => (show o ≠ b by omega) z9.1), if_neg (fun z9 => (show o ≠ b by omega) z9.1)]; rw [hs_b]; rfl)) ?_
  refine u_puti (k := 4) (C := RX1) (T := TX1) (NF := 11) (ty := .int) hH.n hH.s rfl rfl inX1_copyFrom_X1 tyX1 tyX1_ok nmX1 (by decide) (by decide +kernel) rfl rfl (by decide +kernel) rfl rfl dX1_copyFrom_37 ?_
  generalize hσ5 : st2 σ4 b 4 (d 4) = σ5
  refine v_aload_n 0 dX1_copyFrom_40 rfl rfl ?_
  refine v_aload_n 1 dX1_copyFrom_41 rfl rfl ?_
  refine u_geti (k := 5) (C := RX1) (T := TX1) (NF := 11) hO.n hO.s rfl rfl inX1_copyFrom_X1 (by decide) (by decide +kernel) rfl dX1_copyFrom_42 ?_
  refine v_topi (d 5) ((by subst_vars; simp only [st2_eq]; rw [if_neg (fun z9 => (show o ≠ b by omega) z9.1), if_neg (fun z9 => (show o ≠ b by omega) z9.1), if_neg (fun z9 => (show o ≠ b by omega) z9.1), if_neg (fun z9 => (show o ≠ b by omega) z9.1), if_neg (fun z9 => (show o ≠ b by omega) z9.1)]; rw [hs_b]; rfl)) ?_
  refine u_puti (k := 5) (C := RX1) (T := TX1) (NF := 11) (ty := .int) hH.n hH.s rfl rfl inX1_copyFrom_X1 tyX1 tyX1_ok nmX1 (by decide) (by decide +kernel) rfl rfl (by decide +kernel) rfl rfl dX1_copyFrom_45 ?_
  generalize hσ6 : st2 σ5 b 5 (d 5) = σ6
  refine v_aload_n 1 dX1_copyFrom_48 rfl rfl ?_
  refine u_getr (k := 6) (C := RX1) (T := TX1) (NF := 11) hO.n hO.s rfl rfl inX1_copyFrom_X1 (by decide) (by decide +kernel) rfl dX1_copyFrom_49 ?_
  refine v_iconst (nI 0) dX1_copyFrom_52 (by decide +kernel) ?_
  refine v_aload_n 0 dX1_copyFrom_53 rfl rfl ?_
  refine u_getr (k := 6) (C := RX1) (T := TX1) (NF := 11) hH.n hH.s rfl rfl inX1_copyFrom_X1 (by decide) (by decide +kernel) rfl dX1_copyFrom_54 ?_
  refine v_iconst (nI 0) dX1_copyFrom_57 (by decide +kernel) ?_
  refine v_aload_n 0 dX1_copyFrom_58 rfl rfl ?_
  refine u_getr (k := 6) (C := RX1) (T := TX1) (NF := 11) hH.n hH.s rfl rfl inX1_copyFrom_X1 (by decide) (by decide +kernel) rfl dX1_copyFrom_59 ?_
  refine u_alenI 0 hH.n1 hH.s1 rfl dX1_copyFrom_62 ?_
  refine u_copy0 (L0 := 4) (L1 := 4) hO.n1 hH.n1 hO.s1 hH.s1 (by omega) (by omega) (by omega) (by decide +kernel) (by decide +kernel) (by decide +kernel) (by decide +kernel) (Nat.le_of_ble_eq_true rfl) (Nat.le_of_ble_eq_true rfl) dX1_copyFrom_63 ?_
  generalize hσ7 : va_up σ6 (b + 1) (va_cpy (σ6 (o + 1)) (σ6 (b + 1)) 0 0 4) = σ7
  have hcp : σ7 = cpS (hs σ o d) b c d 0 0 := by
    subst hσ1; subst hσ2; subst hσ3; subst hσ4; subst hσ5; subst hσ6; subst hσ7;
    exact hall_cp hap
  rw [hcp]
  refine v_iconst (nI 0) dX1_copyFrom_66 (by decide +kernel) ?_
  refine v_istore_n [(2, .int (nI 0)), (0, .ref (G b)), (1, .ref (G o))] dX1_copyFrom_67 rfl (by decide) rfl ?_
  refine v_loc [0, 2, 1] [(2, .int (nI 0)), (1, .ref (G o)), (0, .ref (G b))] rfl ?_
  refine u_loop1 (fun n (k : Nat) => k + n = 3) (fun (k : Nat) => cpS (hs σ o d) b c d k 0) (fun (k : Nat) => [(2, .int (nI k)), (1, .ref (G o)), (0, .ref (G b))]) (3) 0 ((by omega)) ?_
  intro n k hL ih
  refine v_iload_n 0 dX1_copyFrom_68 rfl rfl ?_
  refine v_aload_n 2 dX1_copyFrom_69 rfl rfl ?_
  refine u_getr (k := 7) (C := RX1) (T := TX1) (NF := 11) hH.n hH.s rfl rfl inX1_copyFrom_X1 (by decide) (by decide +kernel) rfl dX1_copyFrom_70 ?_
  refine u_alenR 4 hH.n2 hH.s2 rfl dX1_copyFrom_73 ?_
  refine v_icmp_geN 97 (by omega) (by omega) dX1_copyFrom_74 rfl (fun h74 => ?_) (fun h74 => ?_)
  · skip
    obtain rfl : k = 3 := by omega
    refine v_iconst (nI 0) dX1_copyFrom_97 (by decide +kernel) ?_
    refine v_istore_n [(2, .int (nI 0)), (1, .ref (G o)), (0, .ref (G b))] dX1_copyFrom_98 rfl (by decide) rfl ?_
    refine v_loc [0, 1, 2] [(2, .int (nI 0)), (1, .ref (G o)), (0, .ref (G b))] rfl ?_
    refine u_loop1 (fun n2 (p : Nat) => p + n2 = 30) (fun (p : Nat) => cpS (hs σ o d) b c d 3 p) (fun (p : Nat) => [(2, .int (nI p)), (1, .ref (G o)), (0, .ref (G b))]) (30) 0 ((by omega)) ?_
    intro n2 p hL2 ih2
    refine v_iload_n 0 dX1_copyFrom_99 rfl rfl ?_
    refine v_aload_n 2 dX1_copyFrom_100 rfl rfl ?_
    refine u_getr (k := 8) (C := RX1) (T := TX1) (NF := 11) hH.n hH.s rfl rfl inX1_copyFrom_X1 (by decide) (by decide +kernel) rfl dX1_copyFrom_101 ?_
    refine u_alenR 5 hH.n3 hH.s3 rfl dX1_copyFrom_104 ?_
    refine v_icmp_geN 128 (by omega) (by omega) dX1_copyFrom_105 rfl (fun h105 => ?_) (fun h105 => ?_)
    · skip
      refine v_vret rfl dX1_copyFrom_128 ⟨rfl, congrArg (φ shp) ?_⟩
      · obtain rfl : p = 30 := (by omega); rw [cpS_full]
    · skip
      refine v_aload_n 2 dX1_copyFrom_108 rfl rfl ?_
      refine u_getr (k := 8) (C := RX1) (T := TX1) (NF := 11) hH.n hH.s rfl rfl inX1_copyFrom_X1 (by decide) (by decide +kernel) rfl dX1_copyFrom_109 ?_
      refine v_iload_n 0 dX1_copyFrom_112 rfl rfl ?_
      refine u_aald 5 p hH.n3 hH.s3 rfl rfl (by omega) (by decide) dX1_copyFrom_113 ?_
      refine v_aload_n 1 dX1_copyFrom_114 rfl rfl ?_
      refine v_iload_n 0 dX1_copyFrom_115 rfl rfl ?_
      refine u_callVv [.int (nI p)] [.ref (G (b + 13 + p))] 1 ((c_X1_personOf lu Dg E N G shp (cpS (hs σ o d) b c d 3 p) hO d (k := p) (by omega)).eqS (cpS_hs hap (by omega) (by omega))) (ci := 1) (C := RX1) (T := TX1) (NF := 11) hO.n hO.s rfl gX1_copyFrom_X1_personOf rfl rfl rfl (by decide +kernel) rfl ⟨Nat.le_of_ble_eq_true rfl, Nat.le_of_ble_eq_true rfl⟩ ⟨Nat.le_of_ble_eq_true rfl, Nat.le_of_ble_eq_true rfl⟩ (Nat.le_of_ble_eq_true rfl) rfl dX1_copyFrom_116 ?_
      refine u_callVn [.ref (G (o + 13 + p))] [] 1 ((c_X4_copyFrom lu Dg E N G shp (cpS (hs σ o d) b c d 3 p) (xa := b + 13 + p) (ya := o + 13 + p) (hH.pe (by omega)) (hO.pe (by omega)) (by omega)).to rfl (cpS_pers _ _ _ _ (by omega) (cpS (hs σ o d) b c d 3 p) (o + 13 + p) (by rw [cpS_out (by omega) (by omega) (by omega), hs_p (by omega)]) (fun _ k9 h9 => persF_0 _ _ _ h9))) (ci := 4) (C := RX4) (T := TX4) (NF := 9) (hH.pe (p := p) (by omega)).1 (hH.pe (p := p) (by omega)).2 rfl gX1_copyFrom_X4_copyFrom rfl rfl rfl (by decide +kernel) rfl ⟨Nat.le_of_ble_eq_true rfl, Nat.le_of_ble_eq_true rfl⟩ ⟨Nat.le_of_ble_eq_true rfl, Nat.le_of_ble_eq_true rfl⟩ (Nat.le_of_ble_eq_true rfl) rfl dX1_copyFrom_119 ?_
      refine v_iincN 0 [(2, .int (nI (p + 1))), (1, .ref (G o)), (0, .ref (G b))] dX1_copyFrom_122 rfl (by decide) rfl ?_
      refine v_goto 99 dX1_copyFrom_125 rfl ?_
      refine v_loc [0, 1, 2] [(2, .int (nI (p + 1))), (1, .ref (G o)), (0, .ref (G b))] rfl ?_
      exact ih2 _ (p + 1) (show n2 - 1 < n2 by omega) (by omega)
  · skip
    refine v_aload_n 2 dX1_copyFrom_77 rfl rfl ?_
    refine u_getr (k := 7) (C := RX1) (T := TX1) (NF := 11) hH.n hH.s rfl rfl inX1_copyFrom_X1 (by decide) (by decide +kernel) rfl dX1_copyFrom_78 ?_
    refine v_iload_n 0 dX1_copyFrom_81 rfl rfl ?_
    refine u_aald 4 k hH.n2 hH.s2 rfl rfl (by omega) (by decide) dX1_copyFrom_82 ?_
    refine v_aload_n 1 dX1_copyFrom_83 rfl rfl ?_
    refine v_iload_n 0 dX1_copyFrom_84 rfl rfl ?_
    refine u_callVv [.int (nI k)] [.ref (G (b + 7 + 2 * k))] 1 ((c_X1_lineOf lu Dg E N G shp (cpS (hs σ o d) b c d k 0) hO d (k := k) (by omega)).eqS (cpS_hs hap (by omega) (by omega))) (ci := 1) (C := RX1) (T := TX1) (NF := 11) hO.n hO.s rfl gX1_copyFrom_X1_lineOf rfl rfl rfl (by decide +kernel) rfl ⟨Nat.le_of_ble_eq_true rfl, Nat.le_of_ble_eq_true rfl⟩ ⟨Nat.le_of_ble_eq_true rfl, Nat.le_of_ble_eq_true rfl⟩ (Nat.le_of_ble_eq_true rfl) rfl dX1_copyFrom_85 ?_
    refine u_callVn [.ref (G (o + 7 + 2 * k))] [] 1 ((c_X3_copyFrom lu Dg E N G shp (cpS (hs σ o d) b c d k 0) (xa := b + 7 + 2 * k) (ya := o + 7 + 2 * k) (hH.li (by omega)) (hO.li (by omega)) (by omega) (by omega) (by omega) (by omega)).to rfl (cpS_line _ _ _ _ (by omega) (cpS (hs σ o d) b c d k 0) (o + 7 + 2 * k) (by rw [cpS_out (by omega) (by omega) (by omega), hs_l (by omega)]) (by rw [cpS_out (by omega) (by omega) (by omega), hs_r (by omega)]) (fun k9 h9 => lineF_0 _ _ _ h9))) (ci := 3) (C := RX3) (T := TX3) (NF := 5) (hH.li (l := k) (by omega)).n (hH.li (l := k) (by omega)).2.1 rfl gX1_copyFrom_X3_copyFrom rfl rfl rfl (by decide +kernel) rfl ⟨Nat.le_of_ble_eq_true rfl, Nat.le_of_ble_eq_true rfl⟩ ⟨Nat.le_of_ble_eq_true rfl, Nat.le_of_ble_eq_true rfl⟩ (Nat.le_of_ble_eq_true rfl) rfl dX1_copyFrom_88 ?_
    refine v_iincN 0 [(2, .int (nI (k + 1))), (1, .ref (G o)), (0, .ref (G b))] dX1_copyFrom_91 rfl (by decide) rfl ?_
    refine v_goto 68 dX1_copyFrom_94 rfl ?_
    refine v_loc [0, 1, 2] [(2, .int (nI (k + 1))), (1, .ref (G o)), (0, .ref (G b))] rfl ?_
    exact ih _ (k + 1) (show n - 1 < n by omega) (by omega)
