/-- the hall is as it was, and so is what lies beside it -/
def Kp (σ : Nat → Nat → Int32) (c : Nat → Int32) (τ : Nat → Nat → Int32) : Prop := ∃ (σ' : Nat → Nat → Int32) (o r : Nat), τ = hs σ' 1 c ∧ HistOk σ' o r ∧ σ' 5 = σ 5 ∧ σ' 781 = σ 781 ∧ σ' 782 = σ 782
set_option maxHeartbeats 4000000 in
set_option maxRecDepth 100000 in
/-- areSumsSo -/
theorem c_L_areSumsSo (lu : Launch) (Dg : va_G) (E : Nat → ClassId) (N : Nat) (G : Nat → Nat) (shp : Nat → (Nat → Int32) → va_E) (σ : Nat → Nat → Int32) (hS : StoodS E G shp N) (c : Nat → Int32) {T : Nat} {B : Int} {og rg : Nat} (hW : Wb T B σ c og rg)   : CS lu yL_areSumsSo wsL_areSumsSo { frames := 7, cells := 0, slots := 0, locals := 163 } Dg E N G shp (hs σ 1 c) [.ref (G 0)] (some (.int (nI 1))) (hs σ 1 c) := by
  refine CS.of (cc := cL_areSumsSo) (maxL := 7) (ret := (some .boolean)) (by decide) rfl (Nat.le_of_ble_eq_true rfl) ?_
  intro p_ e_ s_ m_ args_ below_ meth_ c_
  refine v_eq (pc' := 0) (st' := []) rfl rfl ?_
  refine v_loc [0] [(0, .ref (G 0))] rfl ?_
  obtain ⟨hO, h5n, hI, hE, hJ, hT9, hB0, hB9⟩ := hW
  have hnp30 := hI.np30
  have hnl3 := hI.nl3
  have hsl := hI.stand_len
  have hfs := fates_sum hE.2.1
  refine v_iconst (nI 0) dL_areSumsSo_0 (by decide +kernel) ?_
  refine v_topi (sumI (fun p => c (58 + 10 * p + 7)) 0) (nI_z) ?_
  refine v_istore_n [(1, .int (sumI (fun p => c (58 + 10 * p + 7)) 0)), (0, .ref (G 0))] dL_areSumsSo_1 rfl (by decide) rfl ?_
  refine v_iconst (nI 0) dL_areSumsSo_2 (by decide +kernel) ?_
  refine v_istore_n [(2, .int (nI 0)), (1, .int (sumI (fun p => c (58 + 10 * p + 7)) 0)), (0, .ref (G 0))] dL_areSumsSo_3 rfl (by decide) rfl ?_
  refine v_iconst (nI 0) dL_areSumsSo_4 (by decide +kernel) ?_
  refine v_istore_n [(3, .int (nI 0)), (2, .int (nI 0)), (1, .int (sumI (fun p => c (58 + 10 * p + 7)) 0)), (0, .ref (G 0))] dL_areSumsSo_5 rfl (by decide) rfl ?_
  refine v_loc [0, 1, 2, 3] [(3, .int (nI 0)), (2, .int (nI 0)), (1, .int (sumI (fun p => c (58 + 10 * p + 7)) 0)), (0, .ref (G 0))] rfl ?_
  refine u_loop1 (fun n (k : Nat) => k + n = tn (c 2)) (fun (k : Nat) => hs σ 1 c) (fun (k : Nat) => [(3, .int (nI k)), (2, .int (nI 0)), (1, .int (sumI (fun p => c (58 + 10 * p + 7)) k)), (0, .ref (G 0))]) (tn (c 2)) 0 ((by omega)) ?_
  intro n k hL ih
  refine v_iload_n 0 dL_areSumsSo_6 rfl rfl ?_
  refine v_aload_n 3 dL_areSumsSo_7 rfl rfl ?_
  refine v_iconst (nI 2) dL_areSumsSo_8 (by decide +kernel) ?_
  refine u_callVv [.int (nI 2)] [.int (nI k)] 1 (c_X5_about_0_2 lu Dg E N G shp σ hS c hI) (ci := 5) (C := RX5) (T := TX5) (NF := 6) hS.o.1 hS.o.2 rfl gL_areSumsSo_X5_about rfl rfl rfl (by decide +kernel) rfl ⟨Nat.le_of_ble_eq_true rfl, Nat.le_of_ble_eq_true rfl⟩ ⟨Nat.le_of_ble_eq_true rfl, Nat.le_of_ble_eq_true rfl⟩ (Nat.le_of_ble_eq_true rfl) rfl dL_areSumsSo_9 ?_
  refine v_topi (nI (tn (c 2))) (hI.np) ?_
  refine v_icmp_geN 31 (by omega) (by omega) dL_areSumsSo_12 rfl (fun h12 => ?_) (fun h12 => ?_)
  · skip
    have hk9 : k = tn (c 2) := by omega
    subst hk9
    refine v_iconst (nI 0) dL_areSumsSo_31 (by decide +kernel) ?_
    refine v_istore_n [(3, .int (nI 0)), (2, .int (nI 0)), (1, .int (sumI (fun p => c (58 + 10 * p + 7)) (tn (c 2)))), (0, .ref (G 0))] dL_areSumsSo_32 rfl (by decide) rfl ?_
    refine v_loc [0, 1, 2, 3] [(3, .int (nI 0)), (2, .int (nI 0)), (1, .int (sumI (fun p => c (58 + 10 * p + 7)) (tn (c 2)))), (0, .ref (G 0))] rfl ?_
    refine u_loop1 (fun n (y : Nat) => y + n = tn (c 1)) (fun (y : Nat) => hs σ 1 c) (fun (y : Nat) => [(3, .int (nI y)), (2, .int (nI (sumN (fun l => tn (c (13 + l))) y))), (1, .int (sumI (fun p => c (58 + 10 * p + 7)) (tn (c 2)))), (0, .ref (G 0))]) (tn (c 1)) 0 ((by omega)) ?_
    intro n y hL ih
    refine v_iload_n 0 dL_areSumsSo_33 rfl rfl ?_
    refine v_aload_n 3 dL_areSumsSo_34 rfl rfl ?_
    refine v_iconst (nI 1) dL_areSumsSo_35 (by decide +kernel) ?_
    refine u_callVv [.int (nI 1)] [.int (nI y)] 1 (c_X5_about_0_1 lu Dg E N G shp σ hS c hI) (ci := 5) (C := RX5) (T := TX5) (NF := 6) hS.o.1 hS.o.2 rfl gL_areSumsSo_X5_about rfl rfl rfl (by decide +kernel) rfl ⟨Nat.le_of_ble_eq_true rfl, Nat.le_of_ble_eq_true rfl⟩ ⟨Nat.le_of_ble_eq_true rfl, Nat.le_of_ble_eq_true rfl⟩ (Nat.le_of_ble_eq_true rfl) rfl dL_areSumsSo_36 ?_
    refine v_topi (nI (tn (c 1))) (hI.nl) ?_
    refine v_icmp_geN 139 (by omega) (by omega) dL_areSumsSo_39 rfl (fun h39 => ?_) (fun h39 => ?_)
    · skip
      have hy9 : y = tn (c 1) := by omega
      subst hy9
      refine v_iload_n 2 dL_areSumsSo_139 rfl rfl ?_
      refine v_if_ne 196 dL_areSumsSo_140 rfl (fun h140 => ?_) (fun h140 => ?_)
      · skip
        exact absurd hE.2.2.1 h140
      · skip
        refine v_iload_n 1 dL_areSumsSo_143 rfl rfl ?_
        refine v_aload_n 3 dL_areSumsSo_144 rfl rfl ?_
        refine v_iconst (nI 3) dL_areSumsSo_145 (by decide +kernel) ?_
        refine u_callVv [.int (nI 3)] [.int (nI (sumN (fun l => tn (c (13 + l))) (tn (c 1))))] 1 (c_X5_about_0_3 lu Dg E N G shp σ hS c hI) (ci := 5) (C := RX5) (T := TX5) (NF := 6) hS.o.1 hS.o.2 rfl gL_areSumsSo_X5_about rfl rfl rfl (by decide +kernel) rfl ⟨Nat.le_of_ble_eq_true rfl, Nat.le_of_ble_eq_true rfl⟩ ⟨Nat.le_of_ble_eq_true rfl, Nat.le_of_ble_eq_true rfl⟩ (Nat.le_of_ble_eq_true rfl) rfl dL_areSumsSo_146 ?_
        refine v_icmp_neN 196 (by omega) (by omega) dL_areSumsSo_149 rfl (fun h149 => ?_) (fun h149 => ?_)
        · skip
          omega
        · skip
          refine v_aload_n 3 dL_areSumsSo_152 rfl rfl ?_
          refine v_iconst (nI 2) dL_areSumsSo_153 (by decide +kernel) ?_
          refine u_callVv [.int (nI 2)] [] 1 (c_X5_about_0_2 lu Dg E N G shp σ hS c hI) (ci := 5) (C := RX5) (T := TX5) (NF := 6) hS.o.1 hS.o.2 rfl gL_areSumsSo_X5_about rfl rfl rfl (by decide +kernel) rfl ⟨Nat.le_of_ble_eq_true rfl, Nat.le_of_ble_eq_true rfl⟩ ⟨Nat.le_of_ble_eq_true rfl, Nat.le_of_ble_eq_true rfl⟩ (Nat.le_of_ble_eq_true rfl) rfl dL_areSumsSo_154 ?_
          refine v_topi (nI (tn (c 2))) (hI.np) ?_
          refine v_aload_n 3 dL_areSumsSo_157 rfl rfl ?_
          refine v_iconst (nI 3) dL_areSumsSo_158 (by decide +kernel) ?_
          refine u_callVv [.int (nI 3)] [.int (nI (tn (c 2)))] 1 (c_X5_about_0_3 lu Dg E N G shp σ hS c hI) (ci := 5) (C := RX5) (T := TX5) (NF := 6) hS.o.1 hS.o.2 rfl gL_areSumsSo_X5_about rfl rfl rfl (by decide +kernel) rfl ⟨Nat.le_of_ble_eq_true rfl, Nat.le_of_ble_eq_true rfl⟩ ⟨Nat.le_of_ble_eq_true rfl, Nat.le_of_ble_eq_true rfl⟩ (Nat.le_of_ble_eq_true rfl) rfl dL_areSumsSo_159 ?_
          refine v_aload_n 3 dL_areSumsSo_162 rfl rfl ?_
          refine v_iconst (nI 4) dL_areSumsSo_163 (by decide +kernel) ?_
          refine u_callVv [.int (nI 4)] [.int (nI (standN c (nI 0) (tn (c 2)))), .int (nI (tn (c 2)))] 1 (c_X5_about_0_4 lu Dg E N G shp σ hS c hI) (ci := 5) (C := RX5) (T := TX5) (NF := 6) hS.o.1 hS.o.2 rfl gL_areSumsSo_X5_about rfl rfl rfl (by decide +kernel) rfl ⟨Nat.le_of_ble_eq_true rfl, Nat.le_of_ble_eq_true rfl⟩ ⟨Nat.le_of_ble_eq_true rfl, Nat.le_of_ble_eq_true rfl⟩ (Nat.le_of_ble_eq_true rfl) rfl dL_areSumsSo_164 ?_
          refine v_iaddN dL_areSumsSo_167 ?_
          refine v_aload_n 3 dL_areSumsSo_168 rfl rfl ?_
          refine v_iconst (nI 5) dL_areSumsSo_169 (by decide +kernel) ?_
          refine u_callVv [.int (nI 5)] [.int (nI (standN c (nI 0) (tn (c 2)) + (standN c (nI 1) (tn (c 2))))), .int (nI (tn (c 2)))] 1 (c_X5_about_0_5 lu Dg E N G shp σ hS c hI) (ci := 5) (C := RX5) (T := TX5) (NF := 6) hS.o.1 hS.o.2 rfl gL_areSumsSo_X5_about rfl rfl rfl (by decide +kernel) rfl ⟨Nat.le_of_ble_eq_true rfl, Nat.le_of_ble_eq_true rfl⟩ ⟨Nat.le_of_ble_eq_true rfl, Nat.le_of_ble_eq_true rfl⟩ (Nat.le_of_ble_eq_true rfl) rfl dL_areSumsSo_170 ?_
          refine v_iaddN dL_areSumsSo_173 ?_
          refine v_icmp_neN 196 (by omega) (by omega) dL_areSumsSo_174 rfl (fun h174 => ?_) (fun h174 => ?_)
          · skip
            omega
          · skip
            refine v_aload_n 3 dL_areSumsSo_177 rfl rfl ?_
            refine v_bipush (nI 9) dL_areSumsSo_178 (by decide +kernel) ?_
            refine u_callVv [.int (nI 9)] [] 1 (c_X5_about_0_9 lu Dg E N G shp σ hS c hI) (ci := 5) (C := RX5) (T := TX5) (NF := 6) hS.o.1 hS.o.2 rfl gL_areSumsSo_X5_about rfl rfl rfl (by decide +kernel) rfl ⟨Nat.le_of_ble_eq_true rfl, Nat.le_of_ble_eq_true rfl⟩ ⟨Nat.le_of_ble_eq_true rfl, Nat.le_of_ble_eq_true rfl⟩ (Nat.le_of_ble_eq_true rfl) rfl dL_areSumsSo_180 ?_
            refine v_aload_n 3 dL_areSumsSo_183 rfl rfl ?_
            refine v_bipush (nI 8) dL_areSumsSo_184 (by decide +kernel) ?_
            refine u_callVv [.int (nI 8)] [.int (accN c (tn (c 2)))] 1 (c_X5_about_0_8 lu Dg E N G shp σ hS c hI) (ci := 5) (C := RX5) (T := TX5) (NF := 6) hS.o.1 hS.o.2 rfl gL_areSumsSo_X5_about rfl rfl rfl (by decide +kernel) rfl ⟨Nat.le_of_ble_eq_true rfl, Nat.le_of_ble_eq_true rfl⟩ ⟨Nat.le_of_ble_eq_true rfl, Nat.le_of_ble_eq_true rfl⟩ (Nat.le_of_ble_eq_true rfl) rfl dL_areSumsSo_186 ?_
            refine v_icmp_ne 196 dL_areSumsSo_189 rfl (fun h189 => ?_) (fun h189 => ?_)
            · skip
              exact absurd ((accN_sum c _).trans hE.2.2.2.1) h189
            · skip
              refine v_iconst (nI 1) dL_areSumsSo_192 (by decide +kernel) ?_
              refine v_goto 197 dL_areSumsSo_193 rfl ?_
              refine v_zret rfl (by decide +kernel) dL_areSumsSo_197 ⟨congrArg (fun z => some (Value.int z)) ?_, congrArg (φ shp) ?_⟩
              · rfl
              · rfl
    · skip
      have hy : y < tn (c 1) := by omega
      have hl12 := hI.len12 hy
      refine v_iconst (nI 0) dL_areSumsSo_42 (by decide +kernel) ?_
      refine v_istore [(4, .int (nI 0)), (3, .int (nI y)), (2, .int (nI (sumN (fun l => tn (c (13 + l))) y))), (1, .int (sumI (fun p => c (58 + 10 * p + 7)) (tn (c 2)))), (0, .ref (G 0))] dL_areSumsSo_43 (by decide) rfl ?_
      refine v_iconst (nI 0) dL_areSumsSo_45 (by decide +kernel) ?_
      refine v_istore [(5, .int (nI 0)), (4, .int (nI 0)), (3, .int (nI y)), (2, .int (nI (sumN (fun l => tn (c (13 + l))) y))), (1, .int (sumI (fun p => c (58 + 10 * p + 7)) (tn (c 2)))), (0, .ref (G 0))] dL_areSumsSo_46 (by decide) rfl ?_
      refine v_loc [0, 1, 2, 3, 4, 5] [(5, .int (nI 0)), (4, .int (nI 0)), (3, .int (nI y)), (2, .int (nI (sumN (fun l => tn (c (13 + l))) y))), (1, .int (sumI (fun p => c (58 + 10 * p + 7)) (tn (c 2)))), (0, .ref (G 0))] rfl ?_
      refine u_loop1 (fun n2 (k : Nat) => k + n2 = tn (c (13 + y))) (fun (k : Nat) => hs σ 1 c) (fun (k : Nat) => [(5, .int (nI k)), (4, .int (stoodN c y k)), (3, .int (nI y)), (2, .int (nI (sumN (fun l => tn (c (13 + l))) y))), (1, .int (sumI (fun p => c (58 + 10 * p + 7)) (tn (c 2)))), (0, .ref (G 0))]) (tn (c (13 + y))) 0 ((by omega)) ?_
      intro n2 k hL2 ih2
      refine v_iload 0 dL_areSumsSo_48 rfl ?_
      refine v_aload_n 5 dL_areSumsSo_50 rfl rfl ?_
      refine v_iload_n 2 dL_areSumsSo_51 rfl rfl ?_
      refine v_iconst (nI 1) dL_areSumsSo_52 (by decide +kernel) ?_
      refine u_callVv [.int (nI y), .int (nI 1)] [.int (nI k)] 2 (c_X5_line_0_1 lu Dg E N G shp σ hS c hI (lz := y) hy) (ci := 5) (C := RX5) (T := TX5) (NF := 6) hS.o.1 hS.o.2 rfl gL_areSumsSo_X5_line rfl rfl rfl (by decide +kernel) rfl ⟨Nat.le_of_ble_eq_true rfl, Nat.le_of_ble_eq_true rfl⟩ ⟨Nat.le_of_ble_eq_true rfl, Nat.le_of_ble_eq_true rfl⟩ (Nat.le_of_ble_eq_true rfl) rfl dL_areSumsSo_53 ?_
      refine v_topi (nI (tn (c (13 + y)))) (hI.len hy) ?_
      refine v_icmp_geN 111 (by omega) (by omega) dL_areSumsSo_56 rfl (fun h56 => ?_) (fun h56 => ?_)
      · skip
        have hk9 : k = tn (c (13 + y)) := by omega
        subst hk9
        refine v_iload_n 3 dL_areSumsSo_111 rfl rfl ?_
        refine v_aload_n 5 dL_areSumsSo_112 rfl rfl ?_
        refine v_iload_n 2 dL_areSumsSo_113 rfl rfl ?_
        refine v_iconst (nI 1) dL_areSumsSo_114 (by decide +kernel) ?_
        refine u_callVv [.int (nI y), .int (nI 1)] [.int (nI (sumN (fun l => tn (c (13 + l))) y))] 2 (c_X5_line_0_1 lu Dg E N G shp σ hS c hI (lz := y) hy) (ci := 5) (C := RX5) (T := TX5) (NF := 6) hS.o.1 hS.o.2 rfl gL_areSumsSo_X5_line rfl rfl rfl (by decide +kernel) rfl ⟨Nat.le_of_ble_eq_true rfl, Nat.le_of_ble_eq_true rfl⟩ ⟨Nat.le_of_ble_eq_true rfl, Nat.le_of_ble_eq_true rfl⟩ (Nat.le_of_ble_eq_true rfl) rfl dL_areSumsSo_115 ?_
        refine v_topi (nI (tn (c (13 + y)))) (hI.len hy) ?_
        refine v_iaddN dL_areSumsSo_118 ?_
        refine v_topi (nI (sumN (fun l => tn (c (13 + l))) (y + 1))) (rfl) ?_
        refine v_istore_n [(2, .int (nI (sumN (fun l => tn (c (13 + l))) (y + 1)))), (5, .int (nI (tn (c (13 + y))))), (4, .int (stoodN c y (tn (c (13 + y))))), (3, .int (nI y)), (1, .int (sumI (fun p => c (58 + 10 * p + 7)) (tn (c 2)))), (0, .ref (G 0))] dL_areSumsSo_119 rfl (by decide) rfl ?_
        refine v_aload_n 5 dL_areSumsSo_120 rfl rfl ?_
        refine v_iload_n 3 dL_areSumsSo_121 rfl rfl ?_
        refine v_iconst (nI 4) dL_areSumsSo_122 (by decide +kernel) ?_
        refine u_callVv [.int (nI y), .int (nI 4)] [] 2 (c_X5_line_0_4 lu Dg E N G shp σ hS c hI (lz := y) hy) (ci := 5) (C := RX5) (T := TX5) (NF := 6) hS.o.1 hS.o.2 rfl gL_areSumsSo_X5_line rfl rfl rfl (by decide +kernel) rfl ⟨Nat.le_of_ble_eq_true rfl, Nat.le_of_ble_eq_true rfl⟩ ⟨Nat.le_of_ble_eq_true rfl, Nat.le_of_ble_eq_true rfl⟩ (Nat.le_of_ble_eq_true rfl) rfl dL_areSumsSo_123 ?_
        refine v_iload 2 dL_areSumsSo_126 rfl ?_
        refine v_icmp_eq 133 dL_areSumsSo_128 rfl (fun h128 => ?_) (fun h128 => ?_)
        · skip
          refine v_iincN 3 [(3, .int (nI (y + 1))), (2, .int (nI (sumN (fun l => tn (c (13 + l))) (y + 1)))), (5, .int (nI (tn (c (13 + y))))), (4, .int (stoodN c y (tn (c (13 + y))))), (1, .int (sumI (fun p => c (58 + 10 * p + 7)) (tn (c 2)))), (0, .ref (G 0))] dL_areSumsSo_133 rfl (by decide) rfl ?_
          refine v_goto 33 dL_areSumsSo_136 rfl ?_
          refine v_loc [0, 1, 4, 5] [(3, .int (nI (y + 1))), (2, .int (nI (sumN (fun l => tn (c (13 + l))) (y + 1)))), (1, .int (sumI (fun p => c (58 + 10 * p + 7)) (tn (c 2)))), (0, .ref (G 0))] rfl ?_
          exact ih _ (y + 1) (show n - 1 < n by omega) (by omega)
        · skip
          exact absurd rfl h128
      · skip
        obtain ⟨w, hw⟩ : ∃ w, w = tn (c (22 + 12 * y + k)) := ⟨_, rfl⟩
        have hk : k < tn (c (13 + y)) := by omega
        have hrow := hI.row hy hk
        have hwp := hI.rowP hy hk
        rw [← hw] at hrow hwp
        have hat := hI.at (l := y) (k := k) (p := w) hy hk hrow (by omega)
        have hln := (hI.plcs hat.1 hat.2.1).2.1
        rw [hat.2.2.1] at hln
        refine v_aload_n 5 dL_areSumsSo_59 rfl rfl ?_
        refine v_iload_n 2 dL_areSumsSo_60 rfl rfl ?_
        refine v_iload 0 dL_areSumsSo_61 rfl ?_
        refine u_callVv [.int (nI y), .int (nI k)] [] 2 (c_X5_at_0 lu Dg E N G shp σ hS c hI (lz := y) hy (kz := k) (by omega)) (ci := 5) (C := RX5) (T := TX5) (NF := 6) hS.o.1 hS.o.2 rfl gL_areSumsSo_X5_at rfl rfl rfl (by decide +kernel) rfl ⟨Nat.le_of_ble_eq_true rfl, Nat.le_of_ble_eq_true rfl⟩ ⟨Nat.le_of_ble_eq_true rfl, Nat.le_of_ble_eq_true rfl⟩ (Nat.le_of_ble_eq_true rfl) rfl dL_areSumsSo_63 ?_
        refine v_topi (nI w) ((ic_t hk).trans hrow) ?_
        refine v_istore [(6, .int (nI w)), (5, .int (nI k)), (4, .int (stoodN c y k)), (3, .int (nI y)), (2, .int (nI (sumN (fun l => tn (c (13 + l))) y))), (1, .int (sumI (fun p => c (58 + 10 * p + 7)) (tn (c 2)))), (0, .ref (G 0))] dL_areSumsSo_66 (by decide) rfl ?_
        refine v_iload 2 dL_areSumsSo_68 rfl ?_
        refine v_aload_n 6 dL_areSumsSo_70 rfl rfl ?_
        refine v_iload 0 dL_areSumsSo_71 rfl ?_
        refine v_iconst (nI 3) dL_areSumsSo_73 (by decide +kernel) ?_
        refine u_callVv [.int (nI w), .int (nI 3)] [.int (stoodN c y k)] 2 (c_X5_person_0_3 lu Dg E N G shp σ hS c hI (pz := w) hwp) (ci := 5) (C := RX5) (T := TX5) (NF := 6) hS.o.1 hS.o.2 rfl gL_areSumsSo_X5_person rfl rfl rfl (by decide +kernel) rfl ⟨Nat.le_of_ble_eq_true rfl, Nat.le_of_ble_eq_true rfl⟩ ⟨Nat.le_of_ble_eq_true rfl, Nat.le_of_ble_eq_true rfl⟩ (Nat.le_of_ble_eq_true rfl) rfl dL_areSumsSo_74 ?_
        refine v_iadd dL_areSumsSo_77 ?_
        refine v_topi (stoodN c y (k + 1)) (by rw [hw]; rfl) ?_
        refine v_istore [(4, .int (stoodN c y (k + 1))), (6, .int (nI w)), (5, .int (nI k)), (3, .int (nI y)), (2, .int (nI (sumN (fun l => tn (c (13 + l))) y))), (1, .int (sumI (fun p => c (58 + 10 * p + 7)) (tn (c 2)))), (0, .ref (G 0))] dL_areSumsSo_78 (by decide) rfl ?_
        refine v_aload_n 6 dL_areSumsSo_80 rfl rfl ?_
        refine v_iload 1 dL_areSumsSo_81 rfl ?_
        refine v_iconst (nI 1) dL_areSumsSo_83 (by decide +kernel) ?_
        refine u_callVv [.int (nI w), .int (nI 1)] [] 2 (c_X5_person_0_1 lu Dg E N G shp σ hS c hI (pz := w) hwp) (ci := 5) (C := RX5) (T := TX5) (NF := 6) hS.o.1 hS.o.2 rfl gL_areSumsSo_X5_person rfl rfl rfl (by decide +kernel) rfl ⟨Nat.le_of_ble_eq_true rfl, Nat.le_of_ble_eq_true rfl⟩ ⟨Nat.le_of_ble_eq_true rfl, Nat.le_of_ble_eq_true rfl⟩ (Nat.le_of_ble_eq_true rfl) rfl dL_areSumsSo_84 ?_
        refine v_topi (nI y) (hln) ?_
        refine v_iload_n 3 dL_areSumsSo_87 rfl rfl ?_
        refine v_icmp_neN 103 (by omega) (by omega) dL_areSumsSo_88 rfl (fun h88 => ?_) (fun h88 => ?_)
        · skip
          omega
        · skip
          refine v_aload_n 6 dL_areSumsSo_91 rfl rfl ?_
          refine v_iload 1 dL_areSumsSo_92 rfl ?_
          refine v_iconst (nI 2) dL_areSumsSo_94 (by decide +kernel) ?_
          refine u_callVv [.int (nI w), .int (nI 2)] [] 2 (c_X5_person_0_2s lu Dg E N G shp σ hS c hI (pz := w) hwp hat.2.1) (ci := 5) (C := RX5) (T := TX5) (NF := 6) hS.o.1 hS.o.2 rfl gL_areSumsSo_X5_person rfl rfl rfl (by decide +kernel) rfl ⟨Nat.le_of_ble_eq_true rfl, Nat.le_of_ble_eq_true rfl⟩ ⟨Nat.le_of_ble_eq_true rfl, Nat.le_of_ble_eq_true rfl⟩ (Nat.le_of_ble_eq_true rfl) rfl dL_areSumsSo_95 ?_
          refine v_topi (nI k) (congrArg nI hat.2.2.2) ?_
          refine v_iload 2 dL_areSumsSo_98 rfl ?_
          refine v_icmp_eqN 105 (by omega) (by omega) dL_areSumsSo_100 rfl (fun h100 => ?_) (fun h100 => ?_)
          · skip
            refine v_iincN 2 [(5, .int (nI (k + 1))), (4, .int (stoodN c y (k + 1))), (6, .int (nI w)), (3, .int (nI y)), (2, .int (nI (sumN (fun l => tn (c (13 + l))) y))), (1, .int (sumI (fun p => c (58 + 10 * p + 7)) (tn (c 2)))), (0, .ref (G 0))] dL_areSumsSo_105 rfl (by decide) rfl ?_
            refine v_goto 48 dL_areSumsSo_108 rfl ?_
            refine v_loc [0, 1, 3, 4, 5, 6] [(5, .int (nI (k + 1))), (4, .int (stoodN c y (k + 1))), (3, .int (nI y)), (2, .int (nI (sumN (fun l => tn (c (13 + l))) y))), (1, .int (sumI (fun p => c (58 + 10 * p + 7)) (tn (c 2)))), (0, .ref (G 0))] rfl ?_
            exact ih2 _ (k + 1) (show n2 - 1 < n2 by omega) (by omega)
          · skip
            omega
  · skip
    refine v_iload_n 2 dL_areSumsSo_15 rfl rfl ?_
    refine v_aload_n 3 dL_areSumsSo_16 rfl rfl ?_
    refine v_iload_n 0 dL_areSumsSo_17 rfl rfl ?_
    refine v_bipush (nI 8) dL_areSumsSo_18 (by decide +kernel) ?_
    refine u_callVv [.int (nI k), .int (nI 8)] [.int (sumI (fun p => c (58 + 10 * p + 7)) k)] 2 (c_X5_person_0_8 lu Dg E N G shp σ hS c hI (pz := k) (by omega)) (ci := 5) (C := RX5) (T := TX5) (NF := 6) hS.o.1 hS.o.2 rfl gL_areSumsSo_X5_person rfl rfl rfl (by decide +kernel) rfl ⟨Nat.le_of_ble_eq_true rfl, Nat.le_of_ble_eq_true rfl⟩ ⟨Nat.le_of_ble_eq_true rfl, Nat.le_of_ble_eq_true rfl⟩ (Nat.le_of_ble_eq_true rfl) rfl dL_areSumsSo_20 ?_
    refine v_iadd dL_areSumsSo_23 ?_
    refine v_topi (sumI (fun p => c (58 + 10 * p + 7)) (k + 1)) (rfl) ?_
    refine v_istore_n [(1, .int (sumI (fun p => c (58 + 10 * p + 7)) (k + 1))), (3, .int (nI k)), (2, .int (nI 0)), (0, .ref (G 0))] dL_areSumsSo_24 rfl (by decide) rfl ?_
    refine v_iincN 1 [(3, .int (nI (k + 1))), (1, .int (sumI (fun p => c (58 + 10 * p + 7)) (k + 1))), (2, .int (nI 0)), (0, .ref (G 0))] dL_areSumsSo_25 rfl (by decide) rfl ?_
    refine v_goto 6 dL_areSumsSo_28 rfl ?_
    refine v_loc [0, 2, 1, 3] [(3, .int (nI (k + 1))), (2, .int (nI 0)), (1, .int (sumI (fun p => c (58 + 10 * p + 7)) (k + 1))), (0, .ref (G 0))] rfl ?_
    exact ih _ (k + 1) (show n - 1 < n by omega) (by omega)

set_option maxHeartbeats 4000000 in
set_option maxRecDepth 100000 in
/-- isForetold -/
theorem c_L_isForetold (lu : Launch) (Dg : va_G) (E : Nat → ClassId) (N : Nat) (G : Nat → Nat) (shp : Nat → (Nat → Int32) → va_E) (σ : Nat → Nat → Int32) (hS : StoodS E G shp N) (c : Nat → Int32) {T : Nat} {B : Int} {og rg : Nat} (hW : Wb T B σ c og rg) {pz : Nat} (hz : pz < tn (c 2)) (hsd : c (58 + 10 * pz + 5) = 0)  : CX lu yL_isForetold wsL_isForetold { frames := 8, cells := 0, slots := 0, locals := 183 } Dg E N G shp (hs σ 1 c) [.ref (G 0), .int (nI pz)] (fun v τ => v = some (.int (nI 1)) ∧ Kp σ c τ) := by
  refine CX.of (cc := cL_isForetold) (maxL := 6) (ret := (some .boolean)) (by decide) rfl (Nat.le_of_ble_eq_true rfl) ?_
  intro p_ e_ s_ m_ args_ below_ meth_ c_
  refine v_eq (pc' := 0) (st' := []) rfl rfl ?_
  refine v_loc [0, 1] [(0, .ref (G 0)), (1, .int (nI pz))] rfl ?_
  obtain ⟨hO, h5n, hI, hE, hJ, hT9, hB0, hB9⟩ := hW
  have hnp30 := hI.np30
  obtain ⟨w, hw⟩ : ∃ w, w = waitN c pz := ⟨_, rfl⟩
  have hw1 := hI.wait1 hz hsd
  rw [← hw] at hw1
  obtain ⟨o2, r2, hr2, hO2, hA2⟩ := puH_ok hO c
  have hO3 := undo_ok hO2
  obtain ⟨o4, r4, hr4, hO4, hA4⟩ := puH_ok hO3 c
  have hO5 := undo_ok hO4
  have hg := hI.goBy (n := w) (by omega)
  have g2 := (hE.goBy hI (n := w) (by omega)).2.1
  have hg1 := hI.goBy (n := w - 1) (by omega)
  have g21 := (hE.goBy hI (n := w - 1) (by omega)).2.1
  have hfa := hI.fate (by omega) hz hsd hw.symm
  have hst := (Inv.turns hI (show T + w ≤ 1000000 by omega) hz hsd hw.symm).1 (w - 1) (by omega)
  have hho := hI.house (n := w) (by omega)
  refine v_aload_n 0 dL_isForetold_0 rfl rfl ?_
  refine v_iload_n 1 dL_isForetold_1 rfl rfl ?_
  refine u_callVv [.int (nI pz)] [] 1 (c_X5_servedIn_0 lu Dg E N G shp σ hS c hI (pz := pz) hz hsd) (ci := 5) (C := RX5) (T := TX5) (NF := 6) hS.o.1 hS.o.2 rfl gL_isForetold_X5_servedIn rfl rfl rfl (by decide +kernel) rfl ⟨Nat.le_of_ble_eq_true rfl, Nat.le_of_ble_eq_true rfl⟩ ⟨Nat.le_of_ble_eq_true rfl, Nat.le_of_ble_eq_true rfl⟩ (Nat.le_of_ble_eq_true rfl) rfl dL_isForetold_2 ?_
  refine v_topi (nI w) (congrArg nI hw.symm) ?_
  refine v_istore_n [(2, .int (nI w)), (0, .ref (G 0)), (1, .int (nI pz))] dL_isForetold_5 rfl (by decide) rfl ?_
  refine v_iload_n 0 dL_isForetold_6 rfl rfl ?_
  refine v_bipush (nI 60) dL_isForetold_7 (by decide +kernel) ?_
  refine v_icmp_leN 14 (by omega) (by omega) dL_isForetold_9 rfl (fun h9 => ?_) (fun h9 => ?_)
  · skip
    refine v_aload_n 1 dL_isForetold_14 rfl rfl ?_
    refine v_iload_n 0 dL_isForetold_15 rfl rfl ?_
    refine u_callVv [.int (nI w)] [] 1 (c_X5_willPay_0 lu Dg E N G shp σ hS c hI (kz := w) (by omega) (by omega)) (ci := 5) (C := RX5) (T := TX5) (NF := 6) hS.o.1 hS.o.2 rfl gL_isForetold_X5_willPay rfl rfl rfl (by decide +kernel) rfl ⟨Nat.le_of_ble_eq_true rfl, Nat.le_of_ble_eq_true rfl⟩ ⟨Nat.le_of_ble_eq_true rfl, Nat.le_of_ble_eq_true rfl⟩ (Nat.le_of_ble_eq_true rfl) rfl dL_isForetold_16 ?_
    refine v_istore_n [(3, .int (nI (sumN (payN c w) (tn (c 2))) * c 7)), (2, .int (nI w)), (0, .ref (G 0)), (1, .int (nI pz))] dL_isForetold_19 rfl (by decide) rfl ?_
    refine v_aload_n 2 dL_isForetold_20 rfl rfl ?_
    refine v_bipush (nI 8) dL_isForetold_21 (by decide +kernel) ?_
    refine u_callVv [.int (nI 8)] [] 1 (c_X5_about_0_8 lu Dg E N G shp σ hS c hI) (ci := 5) (C := RX5) (T := TX5) (NF := 6) hS.o.1 hS.o.2 rfl gL_isForetold_X5_about rfl rfl rfl (by decide +kernel) rfl ⟨Nat.le_of_ble_eq_true rfl, Nat.le_of_ble_eq_true rfl⟩ ⟨Nat.le_of_ble_eq_true rfl, Nat.le_of_ble_eq_true rfl⟩ (Nat.le_of_ble_eq_true rfl) rfl dL_isForetold_23 ?_
    refine v_istore [(4, .int (c 5)), (3, .int (nI (sumN (payN c w) (tn (c 2))) * c 7)), (2, .int (nI w)), (0, .ref (G 0)), (1, .int (nI pz))] dL_isForetold_26 (by decide) rfl ?_
    refine v_aload_n 3 dL_isForetold_28 rfl rfl ?_
    refine v_iload_n 2 dL_isForetold_29 rfl rfl ?_
    refine u_callVv [.int (nI w)] [] 1 (c_X5_minutes_0 lu Dg E N G shp σ hS c hI (by omega) (kz := w) (by omega) (by omega) hO) (ci := 5) (C := RX5) (T := TX5) (NF := 6) hS.o.1 hS.o.2 rfl gL_isForetold_X5_minutes rfl rfl rfl (by decide +kernel) rfl ⟨Nat.le_of_ble_eq_true rfl, Nat.le_of_ble_eq_true rfl⟩ ⟨Nat.le_of_ble_eq_true rfl, Nat.le_of_ble_eq_true rfl⟩ (Nat.le_of_ble_eq_true rfl) rfl dL_isForetold_30 ?_
    refine v_pop dL_isForetold_33 rfl ?_
    refine v_aload_n 3 dL_isForetold_34 rfl rfl ?_
    refine v_iload_n 4 dL_isForetold_35 rfl rfl ?_
    refine v_bipush (nI 6) dL_isForetold_36 (by decide +kernel) ?_
    refine u_callVv [.int (nI pz), .int (nI 6)] [] 2 (c_X5_person_0_6 lu Dg E N G shp (puH σ c og rg) hS (goByS c w) hg (pz := pz) (by rw [g2]; exact hz)) (ci := 5) (C := RX5) (T := TX5) (NF := 6) hS.o.1 hS.o.2 rfl gL_isForetold_X5_person rfl rfl rfl (by decide +kernel) rfl ⟨Nat.le_of_ble_eq_true rfl, Nat.le_of_ble_eq_true rfl⟩ ⟨Nat.le_of_ble_eq_true rfl, Nat.le_of_ble_eq_true rfl⟩ (Nat.le_of_ble_eq_true rfl) rfl dL_isForetold_38 ?_
    refine v_topi (nI 1) (hfa) ?_
    refine v_iconst (nI 1) dL_isForetold_41 (by decide +kernel) ?_
    refine v_icmp_neN 62 (by omega) (by omega) dL_isForetold_42 rfl (fun h42 => ?_) (fun h42 => ?_)
    · skip
      omega
    · skip
      refine v_aload_n 3 dL_isForetold_45 rfl rfl ?_
      refine v_bipush (nI 8) dL_isForetold_46 (by decide +kernel) ?_
      refine u_callVv [.int (nI 8)] [] 1 (c_X5_about_0_8 lu Dg E N G shp (puH σ c og rg) hS (goByS c w) hg) (ci := 5) (C := RX5) (T := TX5) (NF := 6) hS.o.1 hS.o.2 rfl gL_isForetold_X5_about rfl rfl rfl (by decide +kernel) rfl ⟨Nat.le_of_ble_eq_true rfl, Nat.le_of_ble_eq_true rfl⟩ ⟨Nat.le_of_ble_eq_true rfl, Nat.le_of_ble_eq_true rfl⟩ (Nat.le_of_ble_eq_true rfl) rfl dL_isForetold_48 ?_
      refine v_iload 0 dL_isForetold_51 rfl ?_
      refine v_isub dL_isForetold_53 ?_
      refine v_iload_n 1 dL_isForetold_54 rfl rfl ?_
      refine v_icmp_ne 62 dL_isForetold_55 rfl (fun h55 => ?_) (fun h55 => ?_)
      · skip
        exact absurd (by rw [hho]; grind) h55
      · skip
        refine v_iconst (nI 1) dL_isForetold_58 (by decide +kernel) ?_
        refine v_goto 63 dL_isForetold_59 rfl ?_
        refine v_istore [(5, .int (nI 1)), (4, .int (c 5)), (3, .int (nI (sumN (payN c w) (tn (c 2))) * c 7)), (2, .int (nI w)), (0, .ref (G 0)), (1, .int (nI pz))] dL_isForetold_63 (by decide) rfl ?_
        refine v_aload_n 4 dL_isForetold_65 rfl rfl ?_
        refine u_callVv [] [] 0 (c_X5_undo_0 lu Dg E N G shp (puH σ c og rg) hS (goByS c w) c hO2.1.1 hO2.1.2 hO2.2.1.1 hr2 hA2) (ci := 5) (C := RX5) (T := TX5) (NF := 6) hS.o.1 hS.o.2 rfl gL_isForetold_X5_undo rfl rfl rfl (by decide +kernel) rfl ⟨Nat.le_of_ble_eq_true rfl, Nat.le_of_ble_eq_true rfl⟩ ⟨Nat.le_of_ble_eq_true rfl, Nat.le_of_ble_eq_true rfl⟩ (Nat.le_of_ble_eq_true rfl) rfl dL_isForetold_66 ?_
        refine v_pop dL_isForetold_69 rfl ?_
        refine v_iload_n 3 dL_isForetold_70 rfl rfl ?_
        refine v_iconst (nI 1) dL_isForetold_71 (by decide +kernel) ?_
        refine v_icmp_leN 110 (by omega) (by omega) dL_isForetold_72 rfl (fun h72 => ?_) (fun h72 => ?_)
        · skip
          refine v_iload 0 dL_isForetold_110 rfl ?_
          refine v_zret rfl (by decide +kernel) dL_isForetold_112 ⟨hs (st2 (puH σ c og rg) 87 2 (nI r2)) 1 c, rfl, ⟨rfl, _, _, _, rfl, hO3, (st2_row _ (by omega) _ _).trans (puH_far (by omega)), (st2_row _ (by omega) _ _).trans (puH_far (by omega)), (st2_row _ (by omega) _ _).trans (puH_far (by omega))⟩⟩
        · skip
          refine v_aload_n 4 dL_isForetold_75 rfl rfl ?_
          refine v_iload_n 3 dL_isForetold_76 rfl rfl ?_
          refine v_iconst (nI 1) dL_isForetold_77 (by decide +kernel) ?_
          refine v_isubN (by omega) dL_isForetold_78 ?_
          refine u_callVv [.int (nI (w - 1))] [] 1 (c_X5_minutes_0 lu Dg E N G shp (st2 (puH σ c og rg) 87 2 (nI r2)) hS c hI (by omega) (kz := w - 1) (by omega) (by omega) hO3) (ci := 5) (C := RX5) (T := TX5) (NF := 6) hS.o.1 hS.o.2 rfl gL_isForetold_X5_minutes rfl rfl rfl (by decide +kernel) rfl ⟨Nat.le_of_ble_eq_true rfl, Nat.le_of_ble_eq_true rfl⟩ ⟨Nat.le_of_ble_eq_true rfl, Nat.le_of_ble_eq_true rfl⟩ (Nat.le_of_ble_eq_true rfl) rfl dL_isForetold_79 ?_
          refine v_pop dL_isForetold_82 rfl ?_
          refine v_iload 0 dL_isForetold_83 rfl ?_
          refine v_if_eqN 102 (by omega) dL_isForetold_85 rfl (fun h85 => ?_) (fun h85 => ?_)
          · skip
            omega
          · skip
            refine v_aload_n 4 dL_isForetold_88 rfl rfl ?_
            refine v_iload_n 5 dL_isForetold_89 rfl rfl ?_
            refine v_bipush (nI 6) dL_isForetold_90 (by decide +kernel) ?_
            refine u_callVv [.int (nI pz), .int (nI 6)] [] 2 (c_X5_person_0_6 lu Dg E N G shp (puH (st2 (puH σ c og rg) 87 2 (nI r2)) c o2 r2) hS (goByS c (w - 1)) hg1 (pz := pz) (by rw [g21]; exact hz)) (ci := 5) (C := RX5) (T := TX5) (NF := 6) hS.o.1 hS.o.2 rfl gL_isForetold_X5_person rfl rfl rfl (by decide +kernel) rfl ⟨Nat.le_of_ble_eq_true rfl, Nat.le_of_ble_eq_true rfl⟩ ⟨Nat.le_of_ble_eq_true rfl, Nat.le_of_ble_eq_true rfl⟩ (Nat.le_of_ble_eq_true rfl) rfl dL_isForetold_92 ?_
            refine v_if_ne 102 dL_isForetold_95 rfl (fun h95 => ?_) (fun h95 => ?_)
            · skip
              exact absurd hst h95
            · skip
              refine v_iconst (nI 1) dL_isForetold_98 (by decide +kernel) ?_
              refine v_goto 103 dL_isForetold_99 rfl ?_
              refine v_istore [(5, .int (nI 1)), (4, .int (c 5)), (3, .int (nI (sumN (payN c w) (tn (c 2))) * c 7)), (2, .int (nI w)), (0, .ref (G 0)), (1, .int (nI pz))] dL_isForetold_103 (by decide) rfl ?_
              refine v_aload_n 4 dL_isForetold_105 rfl rfl ?_
              refine u_callVv [] [] 0 (c_X5_undo_0 lu Dg E N G shp (puH (st2 (puH σ c og rg) 87 2 (nI r2)) c o2 r2) hS (goByS c (w - 1)) c hO4.1.1 hO4.1.2 hO4.2.1.1 hr4 hA4) (ci := 5) (C := RX5) (T := TX5) (NF := 6) hS.o.1 hS.o.2 rfl gL_isForetold_X5_undo rfl rfl rfl (by decide +kernel) rfl ⟨Nat.le_of_ble_eq_true rfl, Nat.le_of_ble_eq_true rfl⟩ ⟨Nat.le_of_ble_eq_true rfl, Nat.le_of_ble_eq_true rfl⟩ (Nat.le_of_ble_eq_true rfl) rfl dL_isForetold_106 ?_
              refine v_pop dL_isForetold_109 rfl ?_
              refine v_iload 0 dL_isForetold_110 rfl ?_
              refine v_zret rfl (by decide +kernel) dL_isForetold_112 ⟨hs (st2 (puH (st2 (puH σ c og rg) 87 2 (nI r2)) c o2 r2) 87 2 (nI r4)) 1 c, rfl, ⟨rfl, _, _, _, rfl, hO5, (st2_row _ (by omega) _ _).trans ((puH_far (by omega)).trans ((st2_row _ (by omega) _ _).trans (puH_far (by omega)))), (st2_row _ (by omega) _ _).trans ((puH_far (by omega)).trans ((st2_row _ (by omega) _ _).trans (puH_far (by omega)))), (st2_row _ (by omega) _ _).trans ((puH_far (by omega)).trans ((st2_row _ (by omega) _ _).trans (puH_far (by omega))))⟩⟩
  · skip
    refine v_iconst (nI 1) dL_isForetold_12 (by decide +kernel) ?_
    refine v_zret rfl (by decide +kernel) dL_isForetold_13 ⟨hs σ 1 c, rfl, ⟨rfl, _, _, _, rfl, hO, rfl, rfl, rfl⟩⟩

set_option maxHeartbeats 4000000 in
set_option maxRecDepth 100000 in
/-- isGainSo -/
theorem c_L_isGainSo (lu : Launch) (Dg : va_G) (E : Nat → ClassId) (N : Nat) (G : Nat → Nat) (shp : Nat → (Nat → Int32) → va_E) (σ : Nat → Nat → Int32) (hS : StoodS E G shp N) (c : Nat → Int32) {T : Nat} {B : Int} {og rg : Nat} (hW : Wb T B σ c og rg) {pz qz : Nat} (hz : pz < tn (c 2)) (hq : qz < tn (c 2)) (hm : MayX c pz qz)  : CX lu yL_isGainSo wsL_isGainSo { frames := 8, cells := 0, slots := 0, locals := 185 } Dg E N G shp (hs σ 1 c) [.ref (G 0), .int (nI pz), .int (nI qz)] (fun v τ => v = some (.int (nI 1)) ∧ Kp σ c τ) := by
  refine CX.of (cc := cL_isGainSo) (maxL := 8) (ret := (some .boolean)) (by decide) rfl (Nat.le_of_ble_eq_true rfl) ?_
  intro p_ e_ s_ m_ args_ below_ meth_ c_
  refine v_eq (pc' := 0) (st' := []) rfl rfl ?_
  refine v_loc [0, 1, 2] [(0, .ref (G 0)), (1, .int (nI pz)), (2, .int (nI qz))] rfl ?_
  obtain ⟨hO, h5n, hI, hE, hJ, hT9, hB0, hB9⟩ := hW
  have hnp30 := hI.np30
  have hx0 := (exch_iff hI hz hq).mpr hm
  obtain ⟨j, hj, hb, hxj, hbest⟩ : ∃ j, j < tn (c 2) ∧ partB c pz (tn (c 2)) = (nI j, gainI c pz j) ∧ exchFl c (nI pz) (nI j) = 0 ∧ ∀ k, k < tn (c 2) → exchFl c (nI pz) (nI k) = 0 → gainI c pz k ≤ gainI c pz j ∧ (gainI c pz k = gainI c pz j → j ≤ k) := by
    rcases part_best (c := c) (p := pz) (n := tn (c 2)) hnp30 with ⟨a1, _⟩ | h
    · exact absurd hx0 (a1 qz hq)
    · exact h
  have hmj := (exch_iff hI hz hj).mp hxj
  have hbq := hbest qz hq hx0
  obtain ⟨o2, r2, hr2, hO2, hA2⟩ := puH_ok hO c
  have hO3 := undo_ok hO2
  have hIx := hI.exch hz hq hm
  obtain ⟨x2, x5, xa⟩ := hI.ex_after hz hq hm
  refine v_aload_n 0 dL_isGainSo_0 rfl rfl ?_
  refine v_iload_n 1 dL_isGainSo_1 rfl rfl ?_
  refine v_iload_n 2 dL_isGainSo_2 rfl rfl ?_
  refine u_callVv [.int (nI pz), .int (nI qz)] [] 2 (c_X5_gain_0 lu Dg E N G shp σ hS c hI (pz := pz) (qz := qz) hz hq hm) (ci := 5) (C := RX5) (T := TX5) (NF := 6) hS.o.1 hS.o.2 rfl gL_isGainSo_X5_gain rfl rfl rfl (by decide +kernel) rfl ⟨Nat.le_of_ble_eq_true rfl, Nat.le_of_ble_eq_true rfl⟩ ⟨Nat.le_of_ble_eq_true rfl, Nat.le_of_ble_eq_true rfl⟩ (Nat.le_of_ble_eq_true rfl) rfl dL_isGainSo_3 ?_
  refine v_istore_n [(3, .int (gainI c pz qz)), (0, .ref (G 0)), (1, .int (nI pz)), (2, .int (nI qz))] dL_isGainSo_6 rfl (by decide) rfl ?_
  refine v_aload_n 1 dL_isGainSo_7 rfl rfl ?_
  refine v_iload_n 2 dL_isGainSo_8 rfl rfl ?_
  refine u_callVv [.int (nI pz)] [] 1 (c_X5_partner_0 lu Dg E N G shp σ hS c hI (pz := pz) hz) (ci := 5) (C := RX5) (T := TX5) (NF := 6) hS.o.1 hS.o.2 rfl gL_isGainSo_X5_partner rfl rfl rfl (by decide +kernel) rfl ⟨Nat.le_of_ble_eq_true rfl, Nat.le_of_ble_eq_true rfl⟩ ⟨Nat.le_of_ble_eq_true rfl, Nat.le_of_ble_eq_true rfl⟩ (Nat.le_of_ble_eq_true rfl) rfl dL_isGainSo_9 ?_
  refine v_topi (nI j) (by rw [hb]) ?_
  refine v_istore [(4, .int (nI j)), (3, .int (gainI c pz qz)), (0, .ref (G 0)), (1, .int (nI pz)), (2, .int (nI qz))] dL_isGainSo_12 (by decide) rfl ?_
  refine v_aload_n 2 dL_isGainSo_14 rfl rfl ?_
  refine v_iload_n 3 dL_isGainSo_15 rfl rfl ?_
  refine u_callVv [.int (nI pz)] [] 1 (c_X5_servedIn_0 lu Dg E N G shp σ hS c hI (pz := pz) hz hm.1) (ci := 5) (C := RX5) (T := TX5) (NF := 6) hS.o.1 hS.o.2 rfl gL_isGainSo_X5_servedIn rfl rfl rfl (by decide +kernel) rfl ⟨Nat.le_of_ble_eq_true rfl, Nat.le_of_ble_eq_true rfl⟩ ⟨Nat.le_of_ble_eq_true rfl, Nat.le_of_ble_eq_true rfl⟩ (Nat.le_of_ble_eq_true rfl) rfl dL_isGainSo_16 ?_
  refine v_istore [(5, .int (nI (waitN c pz))), (4, .int (nI j)), (3, .int (gainI c pz qz)), (0, .ref (G 0)), (1, .int (nI pz)), (2, .int (nI qz))] dL_isGainSo_19 (by decide) rfl ?_
  refine v_aload_n 3 dL_isGainSo_21 rfl rfl ?_
  refine v_iload_n 4 dL_isGainSo_22 rfl rfl ?_
  refine v_iload_n 5 dL_isGainSo_23 rfl rfl ?_
  refine u_callVv [.int (nI pz), .int (nI qz)] [] 2 (c_X5_exchange_0 lu Dg E N G shp σ hS c hI (pz := pz) (qz := qz) hz hq hm hO) (ci := 5) (C := RX5) (T := TX5) (NF := 6) hS.o.1 hS.o.2 rfl gL_isGainSo_X5_exchange rfl rfl rfl (by decide +kernel) rfl ⟨Nat.le_of_ble_eq_true rfl, Nat.le_of_ble_eq_true rfl⟩ ⟨Nat.le_of_ble_eq_true rfl, Nat.le_of_ble_eq_true rfl⟩ (Nat.le_of_ble_eq_true rfl) rfl dL_isGainSo_24 ?_
  refine v_istore [(6, .int (nI (plc c pz - plc c qz) * c 8)), (5, .int (nI (waitN c pz))), (4, .int (nI j)), (3, .int (gainI c pz qz)), (0, .ref (G 0)), (1, .int (nI pz)), (2, .int (nI qz))] dL_isGainSo_27 (by decide) rfl ?_
  refine v_iload_n 3 dL_isGainSo_29 rfl rfl ?_
  refine v_iload 1 dL_isGainSo_30 rfl ?_
  refine v_aload_n 4 dL_isGainSo_32 rfl rfl ?_
  refine v_iload_n 5 dL_isGainSo_33 rfl rfl ?_
  refine u_callVv [.int (nI pz)] [.int (nI (waitN c pz)), .int (gainI c pz qz)] 1 (c_X5_servedIn_0 lu Dg E N G shp (puH σ c og rg) hS (exchS c pz qz) hIx (pz := pz) x2 x5) (ci := 5) (C := RX5) (T := TX5) (NF := 6) hS.o.1 hS.o.2 rfl gL_isGainSo_X5_servedIn rfl rfl rfl (by decide +kernel) rfl ⟨Nat.le_of_ble_eq_true rfl, Nat.le_of_ble_eq_true rfl⟩ ⟨Nat.le_of_ble_eq_true rfl, Nat.le_of_ble_eq_true rfl⟩ (Nat.le_of_ble_eq_true rfl) rfl dL_isGainSo_34 ?_
  refine v_isub dL_isGainSo_37 ?_
  refine v_iload 0 dL_isGainSo_38 rfl ?_
  refine v_isub dL_isGainSo_40 ?_
  refine v_icmp_ne 64 dL_isGainSo_41 rfl (fun h41 => ?_) (fun h41 => ?_)
  · skip
    exact absurd rfl h41
  · skip
    refine v_aload_n 4 dL_isGainSo_44 rfl rfl ?_
    refine v_iload_n 5 dL_isGainSo_45 rfl rfl ?_
    refine v_iconst (nI 4) dL_isGainSo_46 (by decide +kernel) ?_
    refine u_callVv [.int (nI pz), .int (nI 4)] [] 2 (c_X5_person_0_4 lu Dg E N G shp (puH σ c og rg) hS (exchS c pz qz) hIx (pz := pz) x2) (ci := 5) (C := RX5) (T := TX5) (NF := 6) hS.o.1 hS.o.2 rfl gL_isGainSo_X5_person rfl rfl rfl (by decide +kernel) rfl ⟨Nat.le_of_ble_eq_true rfl, Nat.le_of_ble_eq_true rfl⟩ ⟨Nat.le_of_ble_eq_true rfl, Nat.le_of_ble_eq_true rfl⟩ (Nat.le_of_ble_eq_true rfl) rfl dL_isGainSo_47 ?_
    refine v_aload_n 4 dL_isGainSo_50 rfl rfl ?_
    refine v_iload_n 5 dL_isGainSo_51 rfl rfl ?_
    refine v_iconst (nI 3) dL_isGainSo_52 (by decide +kernel) ?_
    refine u_callVv [.int (nI pz), .int (nI 3)] [.int ((exchS c pz qz) (58 + 10 * pz + 3))] 2 (c_X5_person_0_3 lu Dg E N G shp (puH σ c og rg) hS (exchS c pz qz) hIx (pz := pz) x2) (ci := 5) (C := RX5) (T := TX5) (NF := 6) hS.o.1 hS.o.2 rfl gL_isGainSo_X5_person rfl rfl rfl (by decide +kernel) rfl ⟨Nat.le_of_ble_eq_true rfl, Nat.le_of_ble_eq_true rfl⟩ ⟨Nat.le_of_ble_eq_true rfl, Nat.le_of_ble_eq_true rfl⟩ (Nat.le_of_ble_eq_true rfl) rfl dL_isGainSo_53 ?_
    refine v_iadd dL_isGainSo_56 ?_
    refine v_if_lt 64 dL_isGainSo_57 rfl (fun h57 => ?_) (fun h57 => ?_)
    · skip
      exact absurd h57 xa
    · skip
      refine v_iconst (nI 1) dL_isGainSo_60 (by decide +kernel) ?_
      refine v_goto 65 dL_isGainSo_61 rfl ?_
      refine v_istore [(7, .int (nI 1)), (6, .int (nI (plc c pz - plc c qz) * c 8)), (5, .int (nI (waitN c pz))), (4, .int (nI j)), (3, .int (gainI c pz qz)), (0, .ref (G 0)), (1, .int (nI pz)), (2, .int (nI qz))] dL_isGainSo_65 (by decide) rfl ?_
      refine v_aload_n 5 dL_isGainSo_67 rfl rfl ?_
      refine u_callVv [] [] 0 (c_X5_undo_0 lu Dg E N G shp (puH σ c og rg) hS (exchS c pz qz) c hO2.1.1 hO2.1.2 hO2.2.1.1 hr2 hA2) (ci := 5) (C := RX5) (T := TX5) (NF := 6) hS.o.1 hS.o.2 rfl gL_isGainSo_X5_undo rfl rfl rfl (by decide +kernel) rfl ⟨Nat.le_of_ble_eq_true rfl, Nat.le_of_ble_eq_true rfl⟩ ⟨Nat.le_of_ble_eq_true rfl, Nat.le_of_ble_eq_true rfl⟩ (Nat.le_of_ble_eq_true rfl) rfl dL_isGainSo_68 ?_
      refine v_pop dL_isGainSo_71 rfl ?_
      refine v_iload 0 dL_isGainSo_72 rfl ?_
      refine v_if_eqN 114 (by omega) dL_isGainSo_74 rfl (fun h74 => ?_) (fun h74 => ?_)
      · skip
        omega
      · skip
        refine v_iload 3 dL_isGainSo_77 rfl ?_
        refine v_if_ltN (by omega) dL_isGainSo_79 ⟨114, rfl⟩ ?_
        refine v_aload_n 5 dL_isGainSo_82 rfl rfl ?_
        refine v_iload_n 6 dL_isGainSo_83 rfl rfl ?_
        refine v_iload 3 dL_isGainSo_84 rfl ?_
        refine u_callVv [.int (nI pz), .int (nI j)] [] 2 (c_X5_gain_0 lu Dg E N G shp (st2 (puH σ c og rg) 87 2 (nI r2)) hS c hI (pz := pz) (qz := j) hz hj hmj) (ci := 5) (C := RX5) (T := TX5) (NF := 6) hS.o.1 hS.o.2 rfl gL_isGainSo_X5_gain rfl rfl rfl (by decide +kernel) rfl ⟨Nat.le_of_ble_eq_true rfl, Nat.le_of_ble_eq_true rfl⟩ ⟨Nat.le_of_ble_eq_true rfl, Nat.le_of_ble_eq_true rfl⟩ (Nat.le_of_ble_eq_true rfl) rfl dL_isGainSo_86 ?_
        refine v_iload_n 4 dL_isGainSo_89 rfl rfl ?_
        refine v_icmp_lt 114 dL_isGainSo_90 rfl (fun h90 => ?_) (fun h90 => ?_)
        · skip
          exact absurd h90 (Int32.not_lt.mpr hbq.1)
        · skip
          refine v_aload_n 5 dL_isGainSo_93 rfl rfl ?_
          refine v_iload_n 6 dL_isGainSo_94 rfl rfl ?_
          refine v_iload 3 dL_isGainSo_95 rfl ?_
          refine u_callVv [.int (nI pz), .int (nI j)] [] 2 (c_X5_gain_0 lu Dg E N G shp (st2 (puH σ c og rg) 87 2 (nI r2)) hS c hI (pz := pz) (qz := j) hz hj hmj) (ci := 5) (C := RX5) (T := TX5) (NF := 6) hS.o.1 hS.o.2 rfl gL_isGainSo_X5_gain rfl rfl rfl (by decide +kernel) rfl ⟨Nat.le_of_ble_eq_true rfl, Nat.le_of_ble_eq_true rfl⟩ ⟨Nat.le_of_ble_eq_true rfl, Nat.le_of_ble_eq_true rfl⟩ (Nat.le_of_ble_eq_true rfl) rfl dL_isGainSo_97 ?_
          refine v_iload_n 4 dL_isGainSo_100 rfl rfl ?_
          refine v_icmp_gt 110 dL_isGainSo_101 rfl (fun h101 => ?_) (fun h101 => ?_)
          · skip
            refine v_iconst (nI 1) dL_isGainSo_110 (by decide +kernel) ?_
            refine v_goto 115 dL_isGainSo_111 rfl ?_
            refine v_zret rfl (by decide +kernel) dL_isGainSo_115 ⟨hs (st2 (puH σ c og rg) 87 2 (nI r2)) 1 c, rfl, ⟨rfl, _, _, _, rfl, hO3, (st2_row _ (by omega) _ _).trans (puH_far (by omega)), (st2_row _ (by omega) _ _).trans (puH_far (by omega)), (st2_row _ (by omega) _ _).trans (puH_far (by omega))⟩⟩
          · skip
            refine v_iload 3 dL_isGainSo_104 rfl ?_
            refine v_iload_n 7 dL_isGainSo_106 rfl rfl ?_
            refine v_icmp_gtN 114 (by omega) (by omega) dL_isGainSo_107 rfl (fun h107 => ?_) (fun h107 => ?_)
            · skip
              exact absurd (hbq.2 (by first | exact Int32.le_antisymm hbq.1 (Int32.not_lt.mp h101) | exact Int32.le_antisymm hbq.1 h101)) (by omega)
            · skip
              refine v_iconst (nI 1) dL_isGainSo_110 (by decide +kernel) ?_
              refine v_goto 115 dL_isGainSo_111 rfl ?_
              refine v_zret rfl (by decide +kernel) dL_isGainSo_115 ⟨hs (st2 (puH σ c og rg) 87 2 (nI r2)) 1 c, rfl, ⟨rfl, _, _, _, rfl, hO3, (st2_row _ (by omega) _ _).trans (puH_far (by omega)), (st2_row _ (by omega) _ _).trans (puH_far (by omega)), (st2_row _ (by omega) _ _).trans (puH_far (by omega))⟩⟩

