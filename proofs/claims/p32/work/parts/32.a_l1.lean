set_option maxHeartbeats 4000000 in
set_option maxRecDepth 100000 in
/-- low -/
theorem c_L_low (lu : Launch) (Dg : va_G) (E : Nat → ClassId) (N : Nat) (G : Nat → Nat) (shp : Nat → (Nat → Int32) → va_E) (σ : Nat → Nat → Int32)  (x : Int32) {m : Nat} (h1 : 1 ≤ m) (hm : m < 2 ^ 31)  : CS lu yL_low wsL_low { frames := 0, cells := 0, slots := 0, locals := 0 } Dg E N G shp σ [.int x, .int (nI m)] (some (.int (nI (lowN x m)))) σ := by
  refine CS.of (cc := cL_low) (maxL := 2) (ret := (some .int)) (by decide) rfl (Nat.le_of_ble_eq_true rfl) ?_
  intro p_ e_ s_ m_ args_ below_ meth_ c_
  refine v_eq (pc' := 0) (st' := []) rfl rfl ?_
  refine v_loc [0, 1] [(0, .int x), (1, .int (nI m))] rfl ?_
  have hlb := low_b x
  refine v_iload_n 0 dL_low_0 rfl rfl ?_
  refine v_ldc (v := nI 2147483647) (by decide +kernel) dL_low_1 ?_
  refine v_iand dL_low_3 ?_
  refine v_topi (nI (x.toBitVec.toNat % 2 ^ 31)) (low_eq x) ?_
  refine v_iload_n 1 dL_low_4 rfl rfl ?_
  refine v_iremN (by omega) (by omega) (by omega) dL_low_5 ?_
  refine v_iret rfl dL_low_6 ⟨congrArg (fun z => some (Value.int z)) ?_, congrArg (φ shp) ?_⟩
  · rfl
  · rfl

noncomputable def tl1 (c : Nat → Int32) : Nat → Int64 | 0 => 7 | k + 1 => tl1 c k * 31 + (abW c k).toInt64
noncomputable def tl2 (c : Nat → Int32) (p : Nat) (a : Int64) : Nat → Int64 | 0 => a | k + 1 => tl2 c p a k * 37 + (peW c p (k + 1)).toInt64
noncomputable def tl3 (c : Nat → Int32) : Nat → Int64 | 0 => tl1 c 10 | p + 1 => tl2 c p (tl3 c p) 8
noncomputable def tl4 (c : Nat → Int32) : Nat → Int64 | 0 => tl3 c (tn (c 2)) | y + 1 => tl4 c y * 41 + 3 * (c (16 + y)).toInt64 + (c (19 + y)).toInt64
noncomputable def taleV (c : Nat → Int32) : Int64 := tl4 c (tn (c 1)) * 43 + (c (6 + 0)).toInt64 + 101 * (c (6 + 1)).toInt64 + 5501 * (c (6 + 2)).toInt64 + 60013 * (c (6 + 3)).toInt64
set_option maxHeartbeats 4000000 in
set_option maxRecDepth 100000 in
/-- tale -/
theorem c_L_tale (lu : Launch) (Dg : va_G) (E : Nat → ClassId) (N : Nat) (G : Nat → Nat) (shp : Nat → (Nat → Int32) → va_E) (σ : Nat → Nat → Int32) (hS : StoodS E G shp N) (c : Nat → Int32) {T : Nat} (hI : Inv T c) (hnl : σ 5 3 = nI 0)  : CS lu yL_tale wsL_tale { frames := 7, cells := 0, slots := 0, locals := 163 } Dg E N G shp (hs σ 1 c) [.ref (G 0)] (some (.long (taleV c))) (hs σ 1 c) := by
  refine CS.of (cc := cL_tale) (maxL := 5) (ret := (some .long)) (by decide) rfl (Nat.le_of_ble_eq_true rfl) ?_
  intro p_ e_ s_ m_ args_ below_ meth_ c_
  refine v_eq (pc' := 0) (st' := []) rfl rfl ?_
  refine v_loc [0] [(0, .ref (G 0))] rfl ?_
  have hnp30 := hI.np30
  have hnl3 := hI.nl3
  refine v_ldc2 (v := (7)) (by decide +kernel) dL_tale_0 ?_
  refine v_st (st' := [.long (tl1 c 0)]) (by first | rfl | decide +kernel) ?_
  refine v_lstore_n [(1, .long (tl1 c 0)), (0, .ref (G 0))] dL_tale_3 rfl (by decide) rfl ?_
  refine v_iconst (nI 0) dL_tale_4 (by decide +kernel) ?_
  refine v_istore_n [(3, .int (nI 0)), (1, .long (tl1 c 0)), (0, .ref (G 0))] dL_tale_5 rfl (by decide) rfl ?_
  refine v_loc [0, 1, 2] [(3, .int (nI 0)), (1, .long (tl1 c 0)), (0, .ref (G 0))] rfl ?_
  refine u_loop1 (fun n (k : Nat) => k + n = 10) (fun (k : Nat) => hs σ 1 c) (fun (k : Nat) => [(3, .int (nI k)), (1, .long (tl1 c k)), (0, .ref (G 0))]) (10) 0 ((by omega)) ?_
  intro n k hL ih
  refine v_iload_n 0 dL_tale_6 rfl rfl ?_
  refine v_bipush (nI 10) dL_tale_7 (by decide +kernel) ?_
  refine v_icmp_geN 31 (by omega) (by omega) dL_tale_9 rfl (fun h9 => ?_) (fun h9 => ?_)
  · skip
    have hk9 : k = 10 := by omega
    subst hk9
    refine v_iconst (nI 0) dL_tale_31 (by decide +kernel) ?_
    refine v_istore_n [(3, .int (nI 0)), (1, .long (tl1 c 10)), (0, .ref (G 0))] dL_tale_32 rfl (by decide) rfl ?_
    refine v_loc [0, 1, 2] [(3, .int (nI 0)), (1, .long (tl1 c 10)), (0, .ref (G 0))] rfl ?_
    refine u_loop1 (fun n (p : Nat) => p + n = tn (c 2)) (fun (p : Nat) => hs σ 1 c) (fun (p : Nat) => [(3, .int (nI p)), (1, .long (tl3 c p)), (0, .ref (G 0))]) (tn (c 2)) 0 ((by omega)) ?_
    intro n p hL ih
    refine v_iload_n 0 dL_tale_33 rfl rfl ?_
    refine v_aload_n 2 dL_tale_34 rfl rfl ?_
    refine v_iconst (nI 2) dL_tale_35 (by decide +kernel) ?_
    refine u_callVv [.int (nI 2)] [.int (nI p)] 1 (c_X5_about_0_2 lu Dg E N G shp σ hS c hI) (ci := 5) (C := RX5) (T := TX5) (NF := 6) hS.o.1 hS.o.2 rfl gL_tale_X5_about rfl rfl rfl (by decide +kernel) rfl ⟨Nat.le_of_ble_eq_true rfl, Nat.le_of_ble_eq_true rfl⟩ ⟨Nat.le_of_ble_eq_true rfl, Nat.le_of_ble_eq_true rfl⟩ (Nat.le_of_ble_eq_true rfl) rfl dL_tale_36 ?_
    refine v_topi (nI (tn (c 2))) (hI.np) ?_
    refine v_icmp_geN 79 (by omega) (by omega) dL_tale_39 rfl (fun h39 => ?_) (fun h39 => ?_)
    · skip
      have hp9 : p = tn (c 2) := by omega
      subst hp9
      refine v_iconst (nI 0) dL_tale_79 (by decide +kernel) ?_
      refine v_istore_n [(3, .int (nI 0)), (1, .long (tl3 c (tn (c 2)))), (0, .ref (G 0))] dL_tale_80 rfl (by decide) rfl ?_
      refine v_loc [0, 1, 2] [(3, .int (nI 0)), (1, .long (tl3 c (tn (c 2)))), (0, .ref (G 0))] rfl ?_
      refine u_loop1 (fun n (y : Nat) => y + n = tn (c 1)) (fun (y : Nat) => hs σ 1 c) (fun (y : Nat) => [(3, .int (nI y)), (1, .long (tl4 c y)), (0, .ref (G 0))]) (tn (c 1)) 0 ((by omega)) ?_
      intro n y hL ih
      refine v_iload_n 0 dL_tale_81 rfl rfl ?_
      refine v_aload_n 2 dL_tale_82 rfl rfl ?_
      refine v_iconst (nI 1) dL_tale_83 (by decide +kernel) ?_
      refine u_callVv [.int (nI 1)] [.int (nI y)] 1 (c_X5_about_0_1 lu Dg E N G shp σ hS c hI) (ci := 5) (C := RX5) (T := TX5) (NF := 6) hS.o.1 hS.o.2 rfl gL_tale_X5_about rfl rfl rfl (by decide +kernel) rfl ⟨Nat.le_of_ble_eq_true rfl, Nat.le_of_ble_eq_true rfl⟩ ⟨Nat.le_of_ble_eq_true rfl, Nat.le_of_ble_eq_true rfl⟩ (Nat.le_of_ble_eq_true rfl) rfl dL_tale_84 ?_
      refine v_topi (nI (tn (c 1))) (hI.nl) ?_
      refine v_icmp_geN 122 (by omega) (by omega) dL_tale_87 rfl (fun h87 => ?_) (fun h87 => ?_)
      · skip
        have hy9 : y = tn (c 1) := by omega
        subst hy9
        refine v_lload_n 1 dL_tale_122 rfl rfl ?_
        refine v_ldc2 (v := (43)) (by decide +kernel) dL_tale_123 ?_
        refine v_lmul dL_tale_126 ?_
        refine v_aload_n 2 dL_tale_127 rfl rfl ?_
        refine v_iconst (nI 0) dL_tale_128 (by decide +kernel) ?_
        refine u_callVv [.int (nI 0)] [.long ((tl4 c (tn (c 1))) * ((43)))] 1 (c_X5_setting_0 lu Dg E N G shp σ hS c (kz := 0) (by omega)) (ci := 5) (C := RX5) (T := TX5) (NF := 6) hS.o.1 hS.o.2 rfl gL_tale_X5_setting rfl rfl rfl (by decide +kernel) rfl ⟨Nat.le_of_ble_eq_true rfl, Nat.le_of_ble_eq_true rfl⟩ ⟨Nat.le_of_ble_eq_true rfl, Nat.le_of_ble_eq_true rfl⟩ (Nat.le_of_ble_eq_true rfl) rfl dL_tale_129 ?_
        refine v_i2l dL_tale_132 ?_
        refine v_ladd dL_tale_133 ?_
        refine v_ldc2 (v := (101)) (by decide +kernel) dL_tale_134 ?_
        refine v_aload_n 2 dL_tale_137 rfl rfl ?_
        refine v_iconst (nI 1) dL_tale_138 (by decide +kernel) ?_
        refine u_callVv [.int (nI 1)] [.long ((101)), .long (((tl4 c (tn (c 1))) * ((43))) + ((c (6 + 0)).toInt64))] 1 (c_X5_setting_0 lu Dg E N G shp σ hS c (kz := 1) (by omega)) (ci := 5) (C := RX5) (T := TX5) (NF := 6) hS.o.1 hS.o.2 rfl gL_tale_X5_setting rfl rfl rfl (by decide +kernel) rfl ⟨Nat.le_of_ble_eq_true rfl, Nat.le_of_ble_eq_true rfl⟩ ⟨Nat.le_of_ble_eq_true rfl, Nat.le_of_ble_eq_true rfl⟩ (Nat.le_of_ble_eq_true rfl) rfl dL_tale_139 ?_
        refine v_i2l dL_tale_142 ?_
        refine v_lmul dL_tale_143 ?_
        refine v_ladd dL_tale_144 ?_
        refine v_ldc2 (v := (5501)) (by decide +kernel) dL_tale_145 ?_
        refine v_aload_n 2 dL_tale_148 rfl rfl ?_
        refine v_iconst (nI 2) dL_tale_149 (by decide +kernel) ?_
        refine u_callVv [.int (nI 2)] [.long ((5501)), .long ((((tl4 c (tn (c 1))) * ((43))) + ((c (6 + 0)).toInt64)) + (((101)) * ((c (6 + 1)).toInt64)))] 1 (c_X5_setting_0 lu Dg E N G shp σ hS c (kz := 2) (by omega)) (ci := 5) (C := RX5) (T := TX5) (NF := 6) hS.o.1 hS.o.2 rfl gL_tale_X5_setting rfl rfl rfl (by decide +kernel) rfl ⟨Nat.le_of_ble_eq_true rfl, Nat.le_of_ble_eq_true rfl⟩ ⟨Nat.le_of_ble_eq_true rfl, Nat.le_of_ble_eq_true rfl⟩ (Nat.le_of_ble_eq_true rfl) rfl dL_tale_150 ?_
        refine v_i2l dL_tale_153 ?_
        refine v_lmul dL_tale_154 ?_
        refine v_ladd dL_tale_155 ?_
        refine v_ldc2 (v := (60013)) (by decide +kernel) dL_tale_156 ?_
        refine v_aload_n 2 dL_tale_159 rfl rfl ?_
        refine v_iconst (nI 3) dL_tale_160 (by decide +kernel) ?_
        refine u_callVv [.int (nI 3)] [.long ((60013)), .long (((((tl4 c (tn (c 1))) * ((43))) + ((c (6 + 0)).toInt64)) + (((101)) * ((c (6 + 1)).toInt64))) + (((5501)) * ((c (6 + 2)).toInt64)))] 1 (c_X5_setting_0 lu Dg E N G shp σ hS c (kz := 3) (by omega)) (ci := 5) (C := RX5) (T := TX5) (NF := 6) hS.o.1 hS.o.2 rfl gL_tale_X5_setting rfl rfl rfl (by decide +kernel) rfl ⟨Nat.le_of_ble_eq_true rfl, Nat.le_of_ble_eq_true rfl⟩ ⟨Nat.le_of_ble_eq_true rfl, Nat.le_of_ble_eq_true rfl⟩ (Nat.le_of_ble_eq_true rfl) rfl dL_tale_161 ?_
        refine v_i2l dL_tale_164 ?_
        refine v_lmul dL_tale_165 ?_
        refine v_ladd dL_tale_166 ?_
        refine v_lret rfl dL_tale_167 ⟨congrArg (fun z => some (Value.long z)) ?_, congrArg (φ shp) ?_⟩
        · rfl
        · rfl
      · skip
        refine v_lload_n 1 dL_tale_90 rfl rfl ?_
        refine v_ldc2 (v := (41)) (by decide +kernel) dL_tale_91 ?_
        refine v_lmul dL_tale_94 ?_
        refine v_ldc2 (v := (3)) (by decide +kernel) dL_tale_95 ?_
        refine v_aload_n 2 dL_tale_98 rfl rfl ?_
        refine v_iload_n 0 dL_tale_99 rfl rfl ?_
        refine v_iconst (nI 2) dL_tale_100 (by decide +kernel) ?_
        refine u_callVv [.int (nI y), .int (nI 2)] [.long ((3)), .long ((tl4 c y) * ((41)))] 2 (c_X5_line_0_2 lu Dg E N G shp σ hS c hI (lz := y) (by omega)) (ci := 5) (C := RX5) (T := TX5) (NF := 6) hS.o.1 hS.o.2 rfl gL_tale_X5_line rfl rfl rfl (by decide +kernel) rfl ⟨Nat.le_of_ble_eq_true rfl, Nat.le_of_ble_eq_true rfl⟩ ⟨Nat.le_of_ble_eq_true rfl, Nat.le_of_ble_eq_true rfl⟩ (Nat.le_of_ble_eq_true rfl) rfl dL_tale_101 ?_
        refine v_i2l dL_tale_104 ?_
        refine v_lmul dL_tale_105 ?_
        refine v_ladd dL_tale_106 ?_
        refine v_aload_n 2 dL_tale_107 rfl rfl ?_
        refine v_iload_n 0 dL_tale_108 rfl rfl ?_
        refine v_iconst (nI 3) dL_tale_109 (by decide +kernel) ?_
        refine u_callVv [.int (nI y), .int (nI 3)] [.long (((tl4 c y) * ((41))) + (((3)) * ((c (16 + y)).toInt64)))] 2 (c_X5_line_0_3 lu Dg E N G shp σ hS c hI (lz := y) (by omega)) (ci := 5) (C := RX5) (T := TX5) (NF := 6) hS.o.1 hS.o.2 rfl gL_tale_X5_line rfl rfl rfl (by decide +kernel) rfl ⟨Nat.le_of_ble_eq_true rfl, Nat.le_of_ble_eq_true rfl⟩ ⟨Nat.le_of_ble_eq_true rfl, Nat.le_of_ble_eq_true rfl⟩ (Nat.le_of_ble_eq_true rfl) rfl dL_tale_110 ?_
        refine v_i2l dL_tale_113 ?_
        refine v_ladd dL_tale_114 ?_
        refine v_st (st' := [.long (tl4 c (y + 1))]) rfl ?_
        refine v_lstore_n [(1, .long (tl4 c (y + 1))), (3, .int (nI y)), (0, .ref (G 0))] dL_tale_115 rfl (by decide) rfl ?_
        refine v_iincN 1 [(3, .int (nI (y + 1))), (1, .long (tl4 c (y + 1))), (0, .ref (G 0))] dL_tale_116 rfl (by decide) rfl ?_
        refine v_goto 81 dL_tale_119 rfl ?_
        refine v_loc [0, 1, 2] [(3, .int (nI (y + 1))), (1, .long (tl4 c (y + 1))), (0, .ref (G 0))] rfl ?_
        exact ih _ (y + 1) (show n - 1 < n by omega) (by omega)
    · skip
      refine v_iconst (nI 1) dL_tale_42 (by decide +kernel) ?_
      refine v_istore [(4, .int (nI 1)), (3, .int (nI p)), (1, .long (tl3 c p)), (0, .ref (G 0))] dL_tale_43 (by decide) rfl ?_
      refine v_loc [0, 1, 2, 3] [(4, .int (nI 1)), (3, .int (nI p)), (1, .long (tl3 c p)), (0, .ref (G 0))] rfl ?_
      refine u_loop1 (fun n2 (k : Nat) => k + n2 = 8) (fun (k : Nat) => hs σ 1 c) (fun (k : Nat) => [(4, .int (nI (k + 1))), (3, .int (nI p)), (1, .long (tl2 c p (tl3 c p) k)), (0, .ref (G 0))]) (8) 0 ((by omega)) ?_
      intro n2 k hL2 ih2
      refine v_iload 0 dL_tale_45 rfl ?_
      refine v_bipush (nI 9) dL_tale_47 (by decide +kernel) ?_
      refine v_icmp_geN 73 (by omega) (by omega) dL_tale_49 rfl (fun h49 => ?_) (fun h49 => ?_)
      · skip
        have hk8 : k = 8 := by omega
        subst hk8
        refine v_loc [0, 1, 2, 3] [(4, .int (nI (8 + 1))), (3, .int (nI p)), (1, .long (tl3 c (p + 1))), (0, .ref (G 0))] rfl ?_
        refine v_iincN 1 [(3, .int (nI (p + 1))), (4, .int (nI (8 + 1))), (1, .long (tl3 c (p + 1))), (0, .ref (G 0))] dL_tale_73 rfl (by decide) rfl ?_
        refine v_goto 33 dL_tale_76 rfl ?_
        refine v_loc [0, 2, 3] [(3, .int (nI (p + 1))), (1, .long (tl3 c (p + 1))), (0, .ref (G 0))] rfl ?_
        exact ih _ (p + 1) (show n - 1 < n by omega) (by omega)
      · skip
        refine v_lload_n 2 dL_tale_52 rfl rfl ?_
        refine v_ldc2 (v := (37)) (by decide +kernel) dL_tale_53 ?_
        refine v_lmul dL_tale_56 ?_
        refine v_aload_n 3 dL_tale_57 rfl rfl ?_
        refine v_iload_n 1 dL_tale_58 rfl rfl ?_
        refine v_iload 0 dL_tale_59 rfl ?_
        refine u_callVv [.int (nI p), .int (nI (k + 1))] [.long ((tl2 c p (tl3 c p) k) * ((37)))] 2 (c_pe lu Dg E N G shp σ hS c hI hnl (pz := p) (by omega) (k := k + 1) (by omega)) (ci := 5) (C := RX5) (T := TX5) (NF := 6) hS.o.1 hS.o.2 rfl gL_tale_X5_person rfl rfl rfl (by decide +kernel) rfl ⟨Nat.le_of_ble_eq_true rfl, Nat.le_of_ble_eq_true rfl⟩ ⟨Nat.le_of_ble_eq_true rfl, Nat.le_of_ble_eq_true rfl⟩ (Nat.le_of_ble_eq_true rfl) rfl dL_tale_61 ?_
        refine v_i2l dL_tale_64 ?_
        refine v_ladd dL_tale_65 ?_
        refine v_st (st' := [.long (tl2 c p (tl3 c p) (k + 1))]) rfl ?_
        refine v_lstore_n [(1, .long (tl2 c p (tl3 c p) (k + 1))), (4, .int (nI (k + 1))), (3, .int (nI p)), (0, .ref (G 0))] dL_tale_66 rfl (by decide) rfl ?_
        refine v_iincN 1 [(4, .int (nI (k + 1 + 1))), (1, .long (tl2 c p (tl3 c p) (k + 1))), (3, .int (nI p)), (0, .ref (G 0))] dL_tale_67 rfl (by decide) rfl ?_
        refine v_goto 45 dL_tale_70 rfl ?_
        refine v_loc [0, 2, 1, 3] [(4, .int (nI (k + 1 + 1))), (3, .int (nI p)), (1, .long (tl2 c p (tl3 c p) (k + 1))), (0, .ref (G 0))] rfl ?_
        exact ih2 _ (k + 1) (show n2 - 1 < n2 by omega) (by omega)
  · skip
    refine v_lload_n 1 dL_tale_12 rfl rfl ?_
    refine v_ldc2 (v := (31)) (by decide +kernel) dL_tale_13 ?_
    refine v_lmul dL_tale_16 ?_
    refine v_aload_n 2 dL_tale_17 rfl rfl ?_
    refine v_iload_n 0 dL_tale_18 rfl rfl ?_
    refine u_callVv [.int (nI k)] [.long ((tl1 c k) * ((31)))] 1 (c_ab lu Dg E N G shp σ hS c hI (k := k) (by omega)) (ci := 5) (C := RX5) (T := TX5) (NF := 6) hS.o.1 hS.o.2 rfl gL_tale_X5_about rfl rfl rfl (by decide +kernel) rfl ⟨Nat.le_of_ble_eq_true rfl, Nat.le_of_ble_eq_true rfl⟩ ⟨Nat.le_of_ble_eq_true rfl, Nat.le_of_ble_eq_true rfl⟩ (Nat.le_of_ble_eq_true rfl) rfl dL_tale_19 ?_
    refine v_i2l dL_tale_22 ?_
    refine v_ladd dL_tale_23 ?_
    refine v_st (st' := [.long (tl1 c (k + 1))]) rfl ?_
    refine v_lstore_n [(1, .long (tl1 c (k + 1))), (3, .int (nI k)), (0, .ref (G 0))] dL_tale_24 rfl (by decide) rfl ?_
    refine v_iincN 1 [(3, .int (nI (k + 1))), (1, .long (tl1 c (k + 1))), (0, .ref (G 0))] dL_tale_25 rfl (by decide) rfl ?_
    refine v_goto 6 dL_tale_28 rfl ?_
    refine v_loc [0, 1, 2] [(3, .int (nI (k + 1))), (1, .long (tl1 c (k + 1))), (0, .ref (G 0))] rfl ?_
    exact ih _ (k + 1) (show n - 1 < n by omega) (by omega)

def SP (c : Nat → Int32) (p : Nat) : Prop := p < tn (c 2) ∧ c (58 + 10 * p + 5) = 0
set_option maxHeartbeats 4000000 in
set_option maxRecDepth 100000 in
/-- isStanding -/
theorem c_L_isStanding (lu : Launch) (Dg : va_G) (E : Nat → ClassId) (N : Nat) (G : Nat → Nat) (shp : Nat → (Nat → Int32) → va_E) (σ : Nat → Nat → Int32) (hS : StoodS E G shp N) (c : Nat → Int32) {T : Nat} (hI : Inv T c) {pz : Nat} (hp31 : pz < 2 ^ 31)  : CS lu yL_isStanding wsL_isStanding { frames := 7, cells := 0, slots := 0, locals := 163 } Dg E N G shp (hs σ 1 c) [.ref (G 0), .int (nI pz)] (some (.int (bi (SP c pz)))) (hs σ 1 c) := by
  refine CS.of (cc := cL_isStanding) (maxL := 2) (ret := (some .boolean)) (by decide) rfl (Nat.le_of_ble_eq_true rfl) ?_
  intro p_ e_ s_ m_ args_ below_ meth_ c_
  refine v_eq (pc' := 0) (st' := []) rfl rfl ?_
  refine v_loc [0, 1] [(0, .ref (G 0)), (1, .int (nI pz))] rfl ?_
  have hnp30 := hI.np30
  refine v_iload_n 1 dL_isStanding_0 rfl rfl ?_
  refine v_aload_n 0 dL_isStanding_1 rfl rfl ?_
  refine v_iconst (nI 2) dL_isStanding_2 (by decide +kernel) ?_
  refine u_callVv [.int (nI 2)] [.int (nI pz)] 1 (c_X5_about_0_2 lu Dg E N G shp σ hS c hI) (ci := 5) (C := RX5) (T := TX5) (NF := 6) hS.o.1 hS.o.2 rfl gL_isStanding_X5_about rfl rfl rfl (by decide +kernel) rfl ⟨Nat.le_of_ble_eq_true rfl, Nat.le_of_ble_eq_true rfl⟩ ⟨Nat.le_of_ble_eq_true rfl, Nat.le_of_ble_eq_true rfl⟩ (Nat.le_of_ble_eq_true rfl) rfl dL_isStanding_3 ?_
  refine v_topi (nI (tn (c 2))) (hI.np) ?_
  refine v_icmp_geN 23 (by omega) (by omega) dL_isStanding_6 rfl (fun h6 => ?_) (fun h6 => ?_)
  · skip
    refine v_iconst (nI 0) dL_isStanding_23 (by decide +kernel) ?_
    refine v_zret rfl (by decide +kernel) dL_isStanding_24 ⟨congrArg (fun z => some (Value.int z)) ?_, congrArg (φ shp) ?_⟩
    · exact bi_nf (fun z => by first | exact absurd z.1 (by omega) | exact h16 z.2)
    · rfl
  · skip
    refine v_aload_n 0 dL_isStanding_9 rfl rfl ?_
    refine v_iload_n 1 dL_isStanding_10 rfl rfl ?_
    refine v_bipush (nI 6) dL_isStanding_11 (by decide +kernel) ?_
    refine u_callVv [.int (nI pz), .int (nI 6)] [] 2 (c_X5_person_0_6 lu Dg E N G shp σ hS c hI (pz := pz) (by omega)) (ci := 5) (C := RX5) (T := TX5) (NF := 6) hS.o.1 hS.o.2 rfl gL_isStanding_X5_person rfl rfl rfl (by decide +kernel) rfl ⟨Nat.le_of_ble_eq_true rfl, Nat.le_of_ble_eq_true rfl⟩ ⟨Nat.le_of_ble_eq_true rfl, Nat.le_of_ble_eq_true rfl⟩ (Nat.le_of_ble_eq_true rfl) rfl dL_isStanding_13 ?_
    refine v_if_ne 23 dL_isStanding_16 rfl (fun h16 => ?_) (fun h16 => ?_)
    · skip
      refine v_iconst (nI 0) dL_isStanding_23 (by decide +kernel) ?_
      refine v_zret rfl (by decide +kernel) dL_isStanding_24 ⟨congrArg (fun z => some (Value.int z)) ?_, congrArg (φ shp) ?_⟩
      · exact bi_nf (fun z => by first | exact absurd z.1 (by omega) | exact h16 z.2)
      · rfl
    · skip
      refine v_iconst (nI 1) dL_isStanding_19 (by decide +kernel) ?_
      refine v_goto 24 dL_isStanding_20 rfl ?_
      refine v_zret rfl (by decide +kernel) dL_isStanding_24 ⟨congrArg (fun z => some (Value.int z)) ?_, congrArg (φ shp) ?_⟩
      · exact bi_nt ⟨by omega, h16⟩
      · rfl

def MX (c : Nat → Int32) (p q : Nat) : Prop := SP c p ∧ SP c q ∧ c (58 + 10 * p + 1) = c (58 + 10 * q + 1) ∧ ¬ nI (plc c p) - nI (plc c q) ≤ 0 ∧ ¬ c (58 + 10 * p + 3) + c (58 + 10 * p + 2) < (nI (plc c p) - nI (plc c q)) * c (6 + 2)
set_option maxHeartbeats 4000000 in
set_option maxRecDepth 100000 in
/-- mayExchange -/
theorem c_L_mayExchange (lu : Launch) (Dg : va_G) (E : Nat → ClassId) (N : Nat) (G : Nat → Nat) (shp : Nat → (Nat → Int32) → va_E) (σ : Nat → Nat → Int32) (hS : StoodS E G shp N) (c : Nat → Int32) {T : Nat} (hI : Inv T c) {pz qz : Nat} (hp31 : pz < 2 ^ 31) (hq31 : qz < 2 ^ 31)  : CS lu yL_mayExchange wsL_mayExchange { frames := 8, cells := 0, slots := 0, locals := 184 } Dg E N G shp (hs σ 1 c) [.ref (G 0), .int (nI pz), .int (nI qz)] (some (.int (bi (MX c pz qz)))) (hs σ 1 c) := by
  refine CS.of (cc := cL_mayExchange) (maxL := 4) (ret := (some .boolean)) (by decide) rfl (Nat.le_of_ble_eq_true rfl) ?_
  intro p_ e_ s_ m_ args_ below_ meth_ c_
  refine v_eq (pc' := 0) (st' := []) rfl rfl ?_
  refine v_loc [0, 1, 2] [(0, .ref (G 0)), (1, .int (nI pz)), (2, .int (nI qz))] rfl ?_
  have hnp30 := hI.np30
  refine v_aload_n 0 dL_mayExchange_0 rfl rfl ?_
  refine v_iload_n 1 dL_mayExchange_1 rfl rfl ?_
  refine u_callSv [.ref (G 0), .int (nI pz)] [] 2 (c_L_isStanding lu Dg E N G shp σ hS c hI (pz := pz) (by omega)) gL_mayExchange_L_isStanding rfl rfl rfl (by decide +kernel) rfl ⟨Nat.le_of_ble_eq_true rfl, Nat.le_of_ble_eq_true rfl⟩ ⟨Nat.le_of_ble_eq_true rfl, Nat.le_of_ble_eq_true rfl⟩ (Nat.le_of_ble_eq_true rfl) rfl dL_mayExchange_2 ?_
  refine v_if_eqB 31 dL_mayExchange_5 rfl (fun h5 => ?_) (fun h5 => ?_)
  · skip
    refine v_iconst (nI 0) dL_mayExchange_31 (by decide +kernel) ?_
    refine v_zret rfl (by decide +kernel) dL_mayExchange_32 ⟨congrArg (fun z => some (Value.int z)) ?_, congrArg (φ shp) ?_⟩
    · exact bi_nf (fun z => by first | exact h5 z.1 | exact h13 z.2.1 | exact h28 z.2.2.1 | exact z.2.2.2.1 h48 | exact z.2.2.2.2 h71)
    · rfl
  · skip
    refine v_aload_n 0 dL_mayExchange_8 rfl rfl ?_
    refine v_iload_n 2 dL_mayExchange_9 rfl rfl ?_
    refine u_callSv [.ref (G 0), .int (nI qz)] [] 2 (c_L_isStanding lu Dg E N G shp σ hS c hI (pz := qz) (by omega)) gL_mayExchange_L_isStanding rfl rfl rfl (by decide +kernel) rfl ⟨Nat.le_of_ble_eq_true rfl, Nat.le_of_ble_eq_true rfl⟩ ⟨Nat.le_of_ble_eq_true rfl, Nat.le_of_ble_eq_true rfl⟩ (Nat.le_of_ble_eq_true rfl) rfl dL_mayExchange_10 ?_
    refine v_if_eqB 31 dL_mayExchange_13 rfl (fun h13 => ?_) (fun h13 => ?_)
    · skip
      refine v_iconst (nI 0) dL_mayExchange_31 (by decide +kernel) ?_
      refine v_zret rfl (by decide +kernel) dL_mayExchange_32 ⟨congrArg (fun z => some (Value.int z)) ?_, congrArg (φ shp) ?_⟩
      · exact bi_nf (fun z => by first | exact h5 z.1 | exact h13 z.2.1 | exact h28 z.2.2.1 | exact z.2.2.2.1 h48 | exact z.2.2.2.2 h71)
      · rfl
    · skip
      refine v_aload_n 0 dL_mayExchange_16 rfl rfl ?_
      refine v_iload_n 1 dL_mayExchange_17 rfl rfl ?_
      refine v_iconst (nI 1) dL_mayExchange_18 (by decide +kernel) ?_
      refine u_callVv [.int (nI pz), .int (nI 1)] [] 2 (c_X5_person_0_1 lu Dg E N G shp σ hS c hI (pz := pz) h5.1) (ci := 5) (C := RX5) (T := TX5) (NF := 6) hS.o.1 hS.o.2 rfl gL_mayExchange_X5_person rfl rfl rfl (by decide +kernel) rfl ⟨Nat.le_of_ble_eq_true rfl, Nat.le_of_ble_eq_true rfl⟩ ⟨Nat.le_of_ble_eq_true rfl, Nat.le_of_ble_eq_true rfl⟩ (Nat.le_of_ble_eq_true rfl) rfl dL_mayExchange_19 ?_
      refine v_aload_n 0 dL_mayExchange_22 rfl rfl ?_
      refine v_iload_n 2 dL_mayExchange_23 rfl rfl ?_
      refine v_iconst (nI 1) dL_mayExchange_24 (by decide +kernel) ?_
      refine u_callVv [.int (nI qz), .int (nI 1)] [.int (c (58 + 10 * pz + 1))] 2 (c_X5_person_0_1 lu Dg E N G shp σ hS c hI (pz := qz) h13.1) (ci := 5) (C := RX5) (T := TX5) (NF := 6) hS.o.1 hS.o.2 rfl gL_mayExchange_X5_person rfl rfl rfl (by decide +kernel) rfl ⟨Nat.le_of_ble_eq_true rfl, Nat.le_of_ble_eq_true rfl⟩ ⟨Nat.le_of_ble_eq_true rfl, Nat.le_of_ble_eq_true rfl⟩ (Nat.le_of_ble_eq_true rfl) rfl dL_mayExchange_25 ?_
      refine v_icmp_eq 33 dL_mayExchange_28 rfl (fun h28 => ?_) (fun h28 => ?_)
      · skip
        refine v_aload_n 0 dL_mayExchange_33 rfl rfl ?_
        refine v_iload_n 1 dL_mayExchange_34 rfl rfl ?_
        refine v_iconst (nI 2) dL_mayExchange_35 (by decide +kernel) ?_
        refine u_callVv [.int (nI pz), .int (nI 2)] [] 2 (c_X5_person_0_2s lu Dg E N G shp σ hS c hI (pz := pz) h5.1 h5.2) (ci := 5) (C := RX5) (T := TX5) (NF := 6) hS.o.1 hS.o.2 rfl gL_mayExchange_X5_person rfl rfl rfl (by decide +kernel) rfl ⟨Nat.le_of_ble_eq_true rfl, Nat.le_of_ble_eq_true rfl⟩ ⟨Nat.le_of_ble_eq_true rfl, Nat.le_of_ble_eq_true rfl⟩ (Nat.le_of_ble_eq_true rfl) rfl dL_mayExchange_36 ?_
        refine v_aload_n 0 dL_mayExchange_39 rfl rfl ?_
        refine v_iload_n 2 dL_mayExchange_40 rfl rfl ?_
        refine v_iconst (nI 2) dL_mayExchange_41 (by decide +kernel) ?_
        refine u_callVv [.int (nI qz), .int (nI 2)] [.int (nI (plc c pz))] 2 (c_X5_person_0_2s lu Dg E N G shp σ hS c hI (pz := qz) h13.1 h13.2) (ci := 5) (C := RX5) (T := TX5) (NF := 6) hS.o.1 hS.o.2 rfl gL_mayExchange_X5_person rfl rfl rfl (by decide +kernel) rfl ⟨Nat.le_of_ble_eq_true rfl, Nat.le_of_ble_eq_true rfl⟩ ⟨Nat.le_of_ble_eq_true rfl, Nat.le_of_ble_eq_true rfl⟩ (Nat.le_of_ble_eq_true rfl) rfl dL_mayExchange_42 ?_
        refine v_isub dL_mayExchange_45 ?_
        refine v_istore_n [(3, .int ((nI (plc c pz)) - (nI (plc c qz)))), (0, .ref (G 0)), (1, .int (nI pz)), (2, .int (nI qz))] dL_mayExchange_46 rfl (by decide) rfl ?_
        refine v_iload_n 0 dL_mayExchange_47 rfl rfl ?_
        refine v_if_le 78 dL_mayExchange_48 rfl (fun h48 => ?_) (fun h48 => ?_)
        · skip
          refine v_iconst (nI 0) dL_mayExchange_78 (by decide +kernel) ?_
          refine v_zret rfl (by decide +kernel) dL_mayExchange_79 ⟨congrArg (fun z => some (Value.int z)) ?_, congrArg (φ shp) ?_⟩
          · exact bi_nf (fun z => by first | exact h5 z.1 | exact h13 z.2.1 | exact h28 z.2.2.1 | exact z.2.2.2.1 h48 | exact z.2.2.2.2 h71)
          · rfl
        · skip
          refine v_aload_n 1 dL_mayExchange_51 rfl rfl ?_
          refine v_iload_n 2 dL_mayExchange_52 rfl rfl ?_
          refine v_iconst (nI 4) dL_mayExchange_53 (by decide +kernel) ?_
          refine u_callVv [.int (nI pz), .int (nI 4)] [] 2 (c_X5_person_0_4 lu Dg E N G shp σ hS c hI (pz := pz) h5.1) (ci := 5) (C := RX5) (T := TX5) (NF := 6) hS.o.1 hS.o.2 rfl gL_mayExchange_X5_person rfl rfl rfl (by decide +kernel) rfl ⟨Nat.le_of_ble_eq_true rfl, Nat.le_of_ble_eq_true rfl⟩ ⟨Nat.le_of_ble_eq_true rfl, Nat.le_of_ble_eq_true rfl⟩ (Nat.le_of_ble_eq_true rfl) rfl dL_mayExchange_54 ?_
          refine v_aload_n 1 dL_mayExchange_57 rfl rfl ?_
          refine v_iload_n 2 dL_mayExchange_58 rfl rfl ?_
          refine v_iconst (nI 3) dL_mayExchange_59 (by decide +kernel) ?_
          refine u_callVv [.int (nI pz), .int (nI 3)] [.int (c (58 + 10 * pz + 3))] 2 (c_X5_person_0_3 lu Dg E N G shp σ hS c hI (pz := pz) h5.1) (ci := 5) (C := RX5) (T := TX5) (NF := 6) hS.o.1 hS.o.2 rfl gL_mayExchange_X5_person rfl rfl rfl (by decide +kernel) rfl ⟨Nat.le_of_ble_eq_true rfl, Nat.le_of_ble_eq_true rfl⟩ ⟨Nat.le_of_ble_eq_true rfl, Nat.le_of_ble_eq_true rfl⟩ (Nat.le_of_ble_eq_true rfl) rfl dL_mayExchange_60 ?_
          refine v_iadd dL_mayExchange_63 ?_
          refine v_iload_n 0 dL_mayExchange_64 rfl rfl ?_
          refine v_aload_n 1 dL_mayExchange_65 rfl rfl ?_
          refine v_iconst (nI 2) dL_mayExchange_66 (by decide +kernel) ?_
          refine u_callVv [.int (nI 2)] [.int ((nI (plc c pz)) - (nI (plc c qz))), .int ((c (58 + 10 * pz + 3)) + (c (58 + 10 * pz + 2)))] 1 (c_X5_setting_0 lu Dg E N G shp σ hS c (kz := 2) (by omega)) (ci := 5) (C := RX5) (T := TX5) (NF := 6) hS.o.1 hS.o.2 rfl gL_mayExchange_X5_setting rfl rfl rfl (by decide +kernel) rfl ⟨Nat.le_of_ble_eq_true rfl, Nat.le_of_ble_eq_true rfl⟩ ⟨Nat.le_of_ble_eq_true rfl, Nat.le_of_ble_eq_true rfl⟩ (Nat.le_of_ble_eq_true rfl) rfl dL_mayExchange_67 ?_
          refine v_imul dL_mayExchange_70 ?_
          refine v_icmp_lt 78 dL_mayExchange_71 rfl (fun h71 => ?_) (fun h71 => ?_)
          · skip
            refine v_iconst (nI 0) dL_mayExchange_78 (by decide +kernel) ?_
            refine v_zret rfl (by decide +kernel) dL_mayExchange_79 ⟨congrArg (fun z => some (Value.int z)) ?_, congrArg (φ shp) ?_⟩
            · exact bi_nf (fun z => by first | exact h5 z.1 | exact h13 z.2.1 | exact h28 z.2.2.1 | exact z.2.2.2.1 h48 | exact z.2.2.2.2 h71)
            · rfl
          · skip
            refine v_iconst (nI 1) dL_mayExchange_74 (by decide +kernel) ?_
            refine v_goto 79 dL_mayExchange_75 rfl ?_
            refine v_zret rfl (by decide +kernel) dL_mayExchange_79 ⟨congrArg (fun z => some (Value.int z)) ?_, congrArg (φ shp) ?_⟩
            · exact bi_nt ⟨h5, h13, h28, h48, h71⟩
            · rfl
      · skip
        refine v_iconst (nI 0) dL_mayExchange_31 (by decide +kernel) ?_
        refine v_zret rfl (by decide +kernel) dL_mayExchange_32 ⟨congrArg (fun z => some (Value.int z)) ?_, congrArg (φ shp) ?_⟩
        · exact bi_nf (fun z => by first | exact h5 z.1 | exact h13 z.2.1 | exact h28 z.2.2.1 | exact z.2.2.2.1 h48 | exact z.2.2.2.2 h71)
        · rfl

def MJ (c f : Nat → Int32) (p : Nat) : Prop := SP c p ∧ ¬ c (58 + 10 * p) ≤ 0 ∧ 0 < plc c p ∧ (f p = 0 ∨ ¬ c 0 + nI 1 - f p < nI 5)
set_option maxHeartbeats 4000000 in
set_option maxRecDepth 100000 in
/-- mayJump -/
theorem c_L_mayJump (lu : Launch) (Dg : va_G) (E : Nat → ClassId) (N : Nat) (G : Nat → Nat) (shp : Nat → (Nat → Int32) → va_E) (σ : Nat → Nat → Int32) (hS : StoodS E G shp N) (c : Nat → Int32) {T : Nat} (hI : Inv T c) (h781 : 781 < N ∧ shp 781 = ArS E 0 30) {pz : Nat} (hp31 : pz < 2 ^ 31)  : CS lu yL_mayJump wsL_mayJump { frames := 8, cells := 0, slots := 0, locals := 184 } Dg E N G shp (hs σ 1 c) [.ref (G 0), .ref (G 781), .int (nI pz)] (some (.int (bi (MJ c (σ 781) pz)))) (hs σ 1 c) := by
  refine CS.of (cc := cL_mayJump) (maxL := 3) (ret := (some .boolean)) (by decide) rfl (Nat.le_of_ble_eq_true rfl) ?_
  intro p_ e_ s_ m_ args_ below_ meth_ c_
  refine v_eq (pc' := 0) (st' := []) rfl rfl ?_
  refine v_loc [0, 1, 2] [(0, .ref (G 0)), (1, .ref (G 781)), (2, .int (nI pz))] rfl ?_
  have hnp30 := hI.np30
  refine v_aload_n 0 dL_mayJump_0 rfl rfl ?_
  refine v_iload_n 2 dL_mayJump_1 rfl rfl ?_
  refine u_callSv [.ref (G 0), .int (nI pz)] [] 2 (c_L_isStanding lu Dg E N G shp σ hS c hI (pz := pz) (by omega)) gL_mayJump_L_isStanding rfl rfl rfl (by decide +kernel) rfl ⟨Nat.le_of_ble_eq_true rfl, Nat.le_of_ble_eq_true rfl⟩ ⟨Nat.le_of_ble_eq_true rfl, Nat.le_of_ble_eq_true rfl⟩ (Nat.le_of_ble_eq_true rfl) rfl dL_mayJump_2 ?_
  refine v_if_eqB 51 dL_mayJump_5 rfl (fun h5 => ?_) (fun h5 => ?_)
  · skip
    refine v_iconst (nI 0) dL_mayJump_51 (by decide +kernel) ?_
    refine v_zret rfl (by decide +kernel) dL_mayJump_52 ⟨congrArg (fun z => some (Value.int z)) ?_, congrArg (φ shp) ?_⟩
    · exact bi_nf (fun z => by first | exact h5 z.1 | exact z.2.1 h14 | exact absurd z.2.2.1 (by omega) | exact z.2.2.2.elim h29 (fun q => q h44))
    · rfl
  · skip
    have hq := hI.plcs h5.1 h5.2
    have hl12 := hI.len12 hq.1
    refine v_aload_n 0 dL_mayJump_8 rfl rfl ?_
    refine v_iload_n 2 dL_mayJump_9 rfl rfl ?_
    refine v_iconst (nI 0) dL_mayJump_10 (by decide +kernel) ?_
    refine u_callVv [.int (nI pz), .int (nI 0)] [] 2 (c_X5_person_0_0 lu Dg E N G shp σ hS c hI (pz := pz) h5.1) (ci := 5) (C := RX5) (T := TX5) (NF := 6) hS.o.1 hS.o.2 rfl gL_mayJump_X5_person rfl rfl rfl (by decide +kernel) rfl ⟨Nat.le_of_ble_eq_true rfl, Nat.le_of_ble_eq_true rfl⟩ ⟨Nat.le_of_ble_eq_true rfl, Nat.le_of_ble_eq_true rfl⟩ (Nat.le_of_ble_eq_true rfl) rfl dL_mayJump_11 ?_
    refine v_if_le 51 dL_mayJump_14 rfl (fun h14 => ?_) (fun h14 => ?_)
    · skip
      refine v_iconst (nI 0) dL_mayJump_51 (by decide +kernel) ?_
      refine v_zret rfl (by decide +kernel) dL_mayJump_52 ⟨congrArg (fun z => some (Value.int z)) ?_, congrArg (φ shp) ?_⟩
      · exact bi_nf (fun z => by first | exact h5 z.1 | exact z.2.1 h14 | exact absurd z.2.2.1 (by omega) | exact z.2.2.2.elim h29 (fun q => q h44))
      · rfl
    · skip
      refine v_aload_n 0 dL_mayJump_17 rfl rfl ?_
      refine v_iload_n 2 dL_mayJump_18 rfl rfl ?_
      refine v_iconst (nI 2) dL_mayJump_19 (by decide +kernel) ?_
      refine u_callVv [.int (nI pz), .int (nI 2)] [] 2 (c_X5_person_0_2s lu Dg E N G shp σ hS c hI (pz := pz) h5.1 h5.2) (ci := 5) (C := RX5) (T := TX5) (NF := 6) hS.o.1 hS.o.2 rfl gL_mayJump_X5_person rfl rfl rfl (by decide +kernel) rfl ⟨Nat.le_of_ble_eq_true rfl, Nat.le_of_ble_eq_true rfl⟩ ⟨Nat.le_of_ble_eq_true rfl, Nat.le_of_ble_eq_true rfl⟩ (Nat.le_of_ble_eq_true rfl) rfl dL_mayJump_20 ?_
      refine v_if_leN 51 (by omega) dL_mayJump_23 rfl (fun h23 => ?_) (fun h23 => ?_)
      · skip
        refine v_iconst (nI 0) dL_mayJump_51 (by decide +kernel) ?_
        refine v_zret rfl (by decide +kernel) dL_mayJump_52 ⟨congrArg (fun z => some (Value.int z)) ?_, congrArg (φ shp) ?_⟩
        · exact bi_nf (fun z => by first | exact h5 z.1 | exact z.2.1 h14 | exact absurd z.2.2.1 (by omega) | exact z.2.2.2.elim h29 (fun q => q h44))
        · rfl
      · skip
        refine v_aload_n 1 dL_mayJump_26 rfl rfl ?_
        refine v_iload_n 2 dL_mayJump_27 rfl rfl ?_
        refine u_iald pz h781.1 h781.2 rfl (by have := h5.1; omega) (by decide) dL_mayJump_28 ?_
        refine v_topi (σ 781 pz) (congrFun (hs_out (by omega)) _) ?_
        refine v_if_eq 47 dL_mayJump_29 rfl (fun h29 => ?_) (fun h29 => ?_)
        · skip
          refine v_iconst (nI 1) dL_mayJump_47 (by decide +kernel) ?_
          refine v_goto 52 dL_mayJump_48 rfl ?_
          refine v_zret rfl (by decide +kernel) dL_mayJump_52 ⟨congrArg (fun z => some (Value.int z)) ?_, congrArg (φ shp) ?_⟩
          · first | exact bi_nt ⟨h5, h14, by omega, Or.inl h29⟩ | exact bi_nt ⟨h5, h14, by omega, Or.inr h44⟩
          · rfl
        · skip
          refine v_aload_n 0 dL_mayJump_32 rfl rfl ?_
          refine v_iconst (nI 0) dL_mayJump_33 (by decide +kernel) ?_
          refine u_callVv [.int (nI 0)] [] 1 (c_X5_about_0_0 lu Dg E N G shp σ hS c hI) (ci := 5) (C := RX5) (T := TX5) (NF := 6) hS.o.1 hS.o.2 rfl gL_mayJump_X5_about rfl rfl rfl (by decide +kernel) rfl ⟨Nat.le_of_ble_eq_true rfl, Nat.le_of_ble_eq_true rfl⟩ ⟨Nat.le_of_ble_eq_true rfl, Nat.le_of_ble_eq_true rfl⟩ (Nat.le_of_ble_eq_true rfl) rfl dL_mayJump_34 ?_
          refine v_iconst (nI 1) dL_mayJump_37 (by decide +kernel) ?_
          refine v_iadd dL_mayJump_38 ?_
          refine v_aload_n 1 dL_mayJump_39 rfl rfl ?_
          refine v_iload_n 2 dL_mayJump_40 rfl rfl ?_
          refine u_iald pz h781.1 h781.2 rfl (by have := h5.1; omega) (by decide) dL_mayJump_41 ?_
          refine v_topi (σ 781 pz) (congrFun (hs_out (by omega)) _) ?_
          refine v_isub dL_mayJump_42 ?_
          refine v_iconst (nI 5) dL_mayJump_43 (by decide +kernel) ?_
          refine v_icmp_lt 51 dL_mayJump_44 rfl (fun h44 => ?_) (fun h44 => ?_)
          · skip
            refine v_iconst (nI 0) dL_mayJump_51 (by decide +kernel) ?_
            refine v_zret rfl (by decide +kernel) dL_mayJump_52 ⟨congrArg (fun z => some (Value.int z)) ?_, congrArg (φ shp) ?_⟩
            · exact bi_nf (fun z => by first | exact h5 z.1 | exact z.2.1 h14 | exact absurd z.2.2.1 (by omega) | exact z.2.2.2.elim h29 (fun q => q h44))
            · rfl
          · skip
            refine v_iconst (nI 1) dL_mayJump_47 (by decide +kernel) ?_
            refine v_goto 52 dL_mayJump_48 rfl ?_
            refine v_zret rfl (by decide +kernel) dL_mayJump_52 ⟨congrArg (fun z => some (Value.int z)) ?_, congrArg (φ shp) ?_⟩
            · first | exact bi_nt ⟨h5, h14, by omega, Or.inl h29⟩ | exact bi_nt ⟨h5, h14, by omega, Or.inr h44⟩
            · rfl

set_option maxHeartbeats 4000000 in
set_option maxRecDepth 100000 in
/-- mayMerge -/
theorem c_L_mayMerge (lu : Launch) (Dg : va_G) (E : Nat → ClassId) (N : Nat) (G : Nat → Nat) (shp : Nat → (Nat → Int32) → va_E) (σ : Nat → Nat → Int32) (hS : StoodS E G shp N) (c : Nat → Int32) {T : Nat} (hI : Inv T c) {lz oz : Nat} (hl : lz < tn (c 1)) (ho : oz < tn (c 1))  : CS lu yL_mayMerge wsL_mayMerge { frames := 7, cells := 0, slots := 0, locals := 163 } Dg E N G shp (hs σ 1 c) [.ref (G 0), .int (nI lz), .int (nI oz)] (some (.int (bi (lz ≠ oz ∧ tn (c (13 + lz)) + tn (c (13 + oz)) ≤ 12)))) (hs σ 1 c) := by
  refine CS.of (cc := cL_mayMerge) (maxL := 3) (ret := (some .boolean)) (by decide) rfl (Nat.le_of_ble_eq_true rfl) ?_
  intro p_ e_ s_ m_ args_ below_ meth_ c_
  refine v_eq (pc' := 0) (st' := []) rfl rfl ?_
  refine v_loc [0, 1, 2] [(0, .ref (G 0)), (1, .int (nI lz)), (2, .int (nI oz))] rfl ?_
  have hnl3 := hI.nl3
  have hl12 := hI.len12 hl
  have ho12 := hI.len12 ho
  refine v_iload_n 1 dL_mayMerge_0 rfl rfl ?_
  refine v_iload_n 2 dL_mayMerge_1 rfl rfl ?_
  refine v_icmp_eqN 27 (by omega) (by omega) dL_mayMerge_2 rfl (fun h2 => ?_) (fun h2 => ?_)
  · skip
    refine v_iconst (nI 0) dL_mayMerge_27 (by decide +kernel) ?_
    refine v_zret rfl (by decide +kernel) dL_mayMerge_28 ⟨congrArg (fun z => some (Value.int z)) ?_, congrArg (φ shp) ?_⟩
    · exact bi_nf (fun z => by omega)
    · rfl
  · skip
    refine v_aload_n 0 dL_mayMerge_5 rfl rfl ?_
    refine v_iload_n 1 dL_mayMerge_6 rfl rfl ?_
    refine v_iconst (nI 1) dL_mayMerge_7 (by decide +kernel) ?_
    refine u_callVv [.int (nI lz), .int (nI 1)] [] 2 (c_X5_line_0_1 lu Dg E N G shp σ hS c hI (lz := lz) hl) (ci := 5) (C := RX5) (T := TX5) (NF := 6) hS.o.1 hS.o.2 rfl gL_mayMerge_X5_line rfl rfl rfl (by decide +kernel) rfl ⟨Nat.le_of_ble_eq_true rfl, Nat.le_of_ble_eq_true rfl⟩ ⟨Nat.le_of_ble_eq_true rfl, Nat.le_of_ble_eq_true rfl⟩ (Nat.le_of_ble_eq_true rfl) rfl dL_mayMerge_8 ?_
    refine v_topi (nI (tn (c (13 + lz)))) (hI.len hl) ?_
    refine v_aload_n 0 dL_mayMerge_11 rfl rfl ?_
    refine v_iload_n 2 dL_mayMerge_12 rfl rfl ?_
    refine v_iconst (nI 1) dL_mayMerge_13 (by decide +kernel) ?_
    refine u_callVv [.int (nI oz), .int (nI 1)] [.int (nI (tn (c (13 + lz))))] 2 (c_X5_line_0_1 lu Dg E N G shp σ hS c hI (lz := oz) ho) (ci := 5) (C := RX5) (T := TX5) (NF := 6) hS.o.1 hS.o.2 rfl gL_mayMerge_X5_line rfl rfl rfl (by decide +kernel) rfl ⟨Nat.le_of_ble_eq_true rfl, Nat.le_of_ble_eq_true rfl⟩ ⟨Nat.le_of_ble_eq_true rfl, Nat.le_of_ble_eq_true rfl⟩ (Nat.le_of_ble_eq_true rfl) rfl dL_mayMerge_14 ?_
    refine v_topi (nI (tn (c (13 + oz)))) (hI.len ho) ?_
    refine v_iaddN dL_mayMerge_17 ?_
    refine v_bipush (nI 12) dL_mayMerge_18 (by decide +kernel) ?_
    refine v_icmp_gtN 27 (by omega) (by omega) dL_mayMerge_20 rfl (fun h20 => ?_) (fun h20 => ?_)
    · skip
      refine v_iconst (nI 0) dL_mayMerge_27 (by decide +kernel) ?_
      refine v_zret rfl (by decide +kernel) dL_mayMerge_28 ⟨congrArg (fun z => some (Value.int z)) ?_, congrArg (φ shp) ?_⟩
      · exact bi_nf (fun z => by omega)
      · rfl
    · skip
      refine v_iconst (nI 1) dL_mayMerge_23 (by decide +kernel) ?_
      refine v_goto 28 dL_mayMerge_24 rfl ?_
      refine v_zret rfl (by decide +kernel) dL_mayMerge_28 ⟨congrArg (fun z => some (Value.int z)) ?_, congrArg (φ shp) ?_⟩
      · exact bi_nt (by omega)
      · rfl

def cpN (f g : Nat → Int32) (m : Nat) : Nat → Int32 := fun k => if k < m then f k else g k
theorem cpN_0 (f g : Nat → Int32) : cpN f g 0 = g := by funext k; unfold cpN; rw [if_neg (by omega)]
def cpA (σ : Nat → Nat → Int32) (a b m : Nat) : Nat → Nat → Int32 := va_up σ b (cpN (σ a) (σ b) m)
theorem cpA_0 (σ : Nat → Nat → Int32) (a b : Nat) : cpA σ a b 0 = σ := by
  funext j
  unfold cpA
  by_cases e : j = b
  · rw [e, va_up_self, cpN_0]
  · rw [va_up_ne _ _ e]
theorem cpA_s (σ : Nat → Nat → Int32) {a b : Nat} (hab : a ≠ b) (m : Nat) : st2 (cpA σ a b m) b m (σ a m) = cpA σ a b (m + 1) := by
  funext j k
  rw [st2_eq]
  unfold cpA
  by_cases e : j = b
  · rw [e, va_up_self, va_up_self]
    unfold cpN
    by_cases q : k = m
    · rw [if_pos ⟨rfl, q⟩, if_pos (by omega), q]
    · rw [if_neg (fun z => q z.2)]
      by_cases q2 : k < m
      · rw [if_pos q2, if_pos (by omega)]
      · rw [if_neg q2, if_neg (by omega)]
  · rw [if_neg (fun z => e z.1), va_up_ne _ _ e, va_up_ne _ _ e]
set_option maxHeartbeats 4000000 in
set_option maxRecDepth 100000 in
/-- copy -/
theorem c_L_copy (lu : Launch) (Dg : va_G) (E : Nat → ClassId) (N : Nat) (G : Nat → Nat) (shp : Nat → (Nat → Int32) → va_E) (σ : Nat → Nat → Int32)  {a b : Nat} (hab : a ≠ b) (ha : a < N ∧ shp a = ArS E 0 30) (hb : b < N ∧ shp b = ArS E 0 30)  : CS lu yL_copy wsL_copy { frames := 0, cells := 0, slots := 0, locals := 0 } Dg E N G shp σ [.ref (G a), .ref (G b)] none (cpA σ a b 30) := by
  refine CS.of (cc := cL_copy) (maxL := 3) (ret := none) (by decide) rfl (Nat.le_of_ble_eq_true rfl) ?_
  intro p_ e_ s_ m_ args_ below_ meth_ c_
  refine v_eq (pc' := 0) (st' := []) rfl rfl ?_
  refine v_loc [0, 1] [(0, .ref (G a)), (1, .ref (G b))] rfl ?_
  refine v_iconst (nI 0) dL_copy_0 (by decide +kernel) ?_
  refine v_istore_n [(2, .int (nI 0)), (0, .ref (G a)), (1, .ref (G b))] dL_copy_1 rfl (by decide) rfl ?_
  refine v_σ (cpA σ a b 0) (cpA_0 σ a b).symm ?_
  refine v_loc [0, 2, 1] [(2, .int (nI 0)), (1, .ref (G b)), (0, .ref (G a))] rfl ?_
  refine u_loop1 (fun n (k : Nat) => k + n = 30) (fun (k : Nat) => cpA σ a b k) (fun (k : Nat) => [(2, .int (nI k)), (1, .ref (G b)), (0, .ref (G a))]) (30) 0 ((by omega)) ?_
  intro n k hL ih
  refine v_iload_n 0 dL_copy_2 rfl rfl ?_
  refine v_bipush (nI 30) dL_copy_3 (by decide +kernel) ?_
  refine v_icmp_geN 20 (by omega) (by omega) dL_copy_5 rfl (fun h5 => ?_) (fun h5 => ?_)
  · skip
    have hk9 : k = 30 := by omega
    subst hk9
    refine v_vret rfl dL_copy_20 ⟨rfl, congrArg (φ shp) ?_⟩
    · rfl
  · skip
    refine v_aload_n 1 dL_copy_8 rfl rfl ?_
    refine v_iload_n 0 dL_copy_9 rfl rfl ?_
    refine v_aload_n 2 dL_copy_10 rfl rfl ?_
    refine v_iload_n 0 dL_copy_11 rfl rfl ?_
    refine u_iald k ha.1 ha.2 rfl (by omega) (by decide) dL_copy_12 ?_
    refine v_topi (σ a k) (congrFun (va_up_ne _ _ hab) k) ?_
    refine u_iast k hb.1 hb.2 rfl (by omega) (by decide) dL_copy_13 ?_
    generalize hσ1 : st2 (cpA σ a b k) b k (σ a k) = σ1
    refine v_σ (cpA σ a b (k + 1)) (by rw [← hσ1]; exact cpA_s σ hab k) ?_
    refine v_iincN 0 [(2, .int (nI (k + 1))), (1, .ref (G b)), (0, .ref (G a))] dL_copy_14 rfl (by decide) rfl ?_
    refine v_goto 2 dL_copy_17 rfl ?_
    refine v_loc [0, 1, 2] [(2, .int (nI (k + 1))), (1, .ref (G b)), (0, .ref (G a))] rfl ?_
    exact ih _ (k + 1) (show n - 1 < n by omega) (by omega)

