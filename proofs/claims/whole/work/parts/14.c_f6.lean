theorem lN_nn {g : Nat} (hz : g < 2 ^ 63) : ¬ lN g < 0 := fun h => absurd ((pk_lLT hz (by omega : 0 < 2 ^ 63)).mp h) (Nat.not_lt_zero _)
theorem lN_z0 {a : Nat} (h : a < 2 ^ 63) : lN a = 0 ↔ a = 0 := pk_lEQ (b := 0) h (by decide)
theorem scrC_stay {s : Nat → Int32} {n g : Nat} : ∀ {k j : Nat}, k ≤ j → ¬ (scrC s n g k).2 = -1 → scrC s n g j = scrC s n g k
  | k, 0, h, hn => by obtain rfl : k = 0 := by omega
                      rfl
  | k, j + 1, h, hn => by
    by_cases e : k = j + 1
    · rw [e]
    · have ih := scrC_stay (k := k) (j := j) (by omega) hn
      show scrStepC _ _ (scrC s n g j) = _
      rw [ih, scrStepC, ic_f hn]
set_option maxHeartbeats 4000000 in
set_option maxRecDepth 100000 in
theorem c_X5_runScript_x (lu : Launch) (hl9 : lu.stackTraces = false) (Dg : va_G) (E : Nat → ClassId) (N : Nat) (G : Nat → Nat) (shp : Nat → (Nat → Int32) → va_E) (σ : Nat → Nat → Int32) (hS : StoodS E G shp N) (c : Nat → Int32) (z : Int64) (x : Int32) (hx : ¬ (nI 1 ≤ x ∧ x ≤ nI 3)) : Thr lu yX5_runScript wsX5_runScript { frames := 6, cells := 1, slots := 6, locals := 140 } Dg E N G (φ shp (hs σ 1 c)) [.ref (G 0), .int x, .long z] "java/lang/IllegalArgumentException" := by
  refine Thr.of (cc := cX5_runScript) (maxL := 6) (ret := (some .int)) (by decide) rfl (Nat.le_of_ble_eq_true rfl) ?_
  intro p_ e_ s_ m_ args_ below_ meth_ c_ hX9 hex9
  refine v_eq (pc' := 0) (st' := []) rfl rfl ?_
  refine v_loc [0, 1, 2] [(0, .ref (G 0)), (1, .int x), (2, .long z)] rfl ?_
  refine v_iload_n 1 dX5_runScript_0 rfl rfl ?_
  refine v_iconst (nI 1) dX5_runScript_1 (by decide +kernel) ?_
  refine v_icmp_lt 10 dX5_runScript_2 rfl (fun h2 => ?_) (fun h2 => ?_)
  · skip
    refine v_throwS (X := "java/lang/IllegalArgumentException") (names := ["java/lang/RuntimeException", "java/lang/Exception"]) hX9 hex9 hl9 rfl (by decide +kernel) (by decide +kernel) (by decide +kernel) (by decide +kernel) (strT_mem 224 (by decide +kernel)) (by decide +kernel) (by decide +kernel) (by decide +kernel) (by decide +kernel) dX5_runScript_10 dX5_runScript_13 dX5_runScript_14 dX5_runScript_16 dX5_runScript_19 (Nat.le_of_ble_eq_true rfl) (Nat.le_of_ble_eq_true rfl) (Nat.le_of_ble_eq_true rfl) (Nat.le_of_ble_eq_true rfl)
  · skip
    refine v_iload_n 1 dX5_runScript_5 rfl rfl ?_
    refine v_iconst (nI 3) dX5_runScript_6 (by decide +kernel) ?_
    refine v_icmp_le 20 dX5_runScript_7 rfl (fun h7 => ?_) (fun h7 => ?_)
    · skip
      exact absurd ⟨Int32.not_lt.mp h2, h7⟩ hx
    · skip
      refine v_throwS (X := "java/lang/IllegalArgumentException") (names := ["java/lang/RuntimeException", "java/lang/Exception"]) hX9 hex9 hl9 rfl (by decide +kernel) (by decide +kernel) (by decide +kernel) (by decide +kernel) (strT_mem 224 (by decide +kernel)) (by decide +kernel) (by decide +kernel) (by decide +kernel) (by decide +kernel) dX5_runScript_10 dX5_runScript_13 dX5_runScript_14 dX5_runScript_16 dX5_runScript_19 (Nat.le_of_ble_eq_true rfl) (Nat.le_of_ble_eq_true rfl) (Nat.le_of_ble_eq_true rfl) (Nat.le_of_ble_eq_true rfl)

set_option maxHeartbeats 4000000 in
set_option maxRecDepth 100000 in
theorem c_X5_runScript_y (lu : Launch) (hl9 : lu.stackTraces = false) (Dg : va_G) (E : Nat → ClassId) (N : Nat) (G : Nat → Nat) (shp : Nat → (Nat → Int32) → va_E) (σ : Nat → Nat → Int32) (hS : StoodS E G shp N) (c : Nat → Int32) {kz : Nat} (h1 : 1 ≤ kz) (h3 : kz ≤ 3) (z : Int64) (hz0 : z < 0) : Thr lu yX5_runScript wsX5_runScript { frames := 6, cells := 1, slots := 6, locals := 140 } Dg E N G (φ shp (hs σ 1 c)) [.ref (G 0), .int (nI kz), .long z] "java/lang/IllegalArgumentException" := by
  refine Thr.of (cc := cX5_runScript) (maxL := 6) (ret := (some .int)) (by decide) rfl (Nat.le_of_ble_eq_true rfl) ?_
  intro p_ e_ s_ m_ args_ below_ meth_ c_ hX9 hex9
  refine v_eq (pc' := 0) (st' := []) rfl rfl ?_
  refine v_loc [0, 1, 2] [(0, .ref (G 0)), (1, .int (nI kz)), (2, .long z)] rfl ?_
  refine v_iload_n 1 dX5_runScript_0 rfl rfl ?_
  refine v_iconst (nI 1) dX5_runScript_1 (by decide +kernel) ?_
  refine v_icmp_ltN 10 (by omega) (by omega) dX5_runScript_2 rfl (fun h2 => ?_) (fun h2 => ?_)
  · skip
    omega
  · skip
    refine v_iload_n 1 dX5_runScript_5 rfl rfl ?_
    refine v_iconst (nI 3) dX5_runScript_6 (by decide +kernel) ?_
    refine v_icmp_leN 20 (by omega) (by omega) dX5_runScript_7 rfl (fun h7 => ?_) (fun h7 => ?_)
    · skip
      refine v_lload_n 2 dX5_runScript_20 rfl rfl ?_
      refine v_lconst (lN 0) dX5_runScript_21 (by decide +kernel) ?_
      refine v_lcmp dX5_runScript_22 ?_
      refine v_if_lt 36 dX5_runScript_23 rfl (fun h23 => ?_) (fun h23 => ?_)
      · skip
        refine v_throwS (X := "java/lang/IllegalArgumentException") (names := ["java/lang/RuntimeException", "java/lang/Exception"]) hX9 hex9 hl9 rfl (by decide +kernel) (by decide +kernel) (by decide +kernel) (by decide +kernel) (strT_mem 230 (by decide +kernel)) (by decide +kernel) (by decide +kernel) (by decide +kernel) (by decide +kernel) dX5_runScript_36 dX5_runScript_39 dX5_runScript_40 dX5_runScript_42 dX5_runScript_45 (Nat.le_of_ble_eq_true rfl) (Nat.le_of_ble_eq_true rfl) (Nat.le_of_ble_eq_true rfl) (Nat.le_of_ble_eq_true rfl)
      · skip
        exact absurd ((lg_cmp_lt _ _).mpr hz0) h23
    · skip
      omega

set_option maxHeartbeats 4000000 in
set_option maxRecDepth 100000 in
theorem c_X5_runScript_z (lu : Launch) (hl9 : lu.stackTraces = false) (Dg : va_G) (E : Nat → ClassId) (N : Nat) (G : Nat → Nat) (shp : Nat → (Nat → Int32) → va_E) (σ : Nat → Nat → Int32) (hS : StoodS E G shp N) (c : Nat → Int32) {kz : Nat} (h1 : 1 ≤ kz) (h3 : kz ≤ 3) {g : Nat} (hz : g < 2 ^ 63) (hq : ¬ dvG g kz = 0) : Thr lu yX5_runScript wsX5_runScript { frames := 6, cells := 1, slots := 6, locals := 140 } Dg E N G (φ shp (hs σ 1 c)) [.ref (G 0), .int (nI kz), .long (lN g)] "java/lang/IllegalArgumentException" := by
  refine Thr.of (cc := cX5_runScript) (maxL := 6) (ret := (some .int)) (by decide) rfl (Nat.le_of_ble_eq_true rfl) ?_
  intro p_ e_ s_ m_ args_ below_ meth_ c_ hX9 hex9
  refine v_eq (pc' := 0) (st' := []) rfl rfl ?_
  refine v_loc [0, 1, 2] [(0, .ref (G 0)), (1, .int (nI kz)), (2, .long (lN g))] rfl ?_
  refine v_iload_n 1 dX5_runScript_0 rfl rfl ?_
  refine v_iconst (nI 1) dX5_runScript_1 (by decide +kernel) ?_
  refine v_icmp_ltN 10 (by omega) (by omega) dX5_runScript_2 rfl (fun h2 => ?_) (fun h2 => ?_)
  · skip
    omega
  · skip
    refine v_iload_n 1 dX5_runScript_5 rfl rfl ?_
    refine v_iconst (nI 3) dX5_runScript_6 (by decide +kernel) ?_
    refine v_icmp_leN 20 (by omega) (by omega) dX5_runScript_7 rfl (fun h7 => ?_) (fun h7 => ?_)
    · skip
      refine v_lload_n 2 dX5_runScript_20 rfl rfl ?_
      refine v_lconst (lN 0) dX5_runScript_21 (by decide +kernel) ?_
      refine v_lcmp dX5_runScript_22 ?_
      refine v_if_lt 36 dX5_runScript_23 rfl (fun h23 => ?_) (fun h23 => ?_)
      · skip
        exact absurd ((lg_cmp_lt _ _).mp h23) (lN_nn hz)
      · skip
        refine v_lload_n 2 dX5_runScript_26 rfl rfl ?_
        refine v_iload_n 1 dX5_runScript_27 rfl rfl ?_
        refine u_callSv [.long (lN g), .int (nI kz)] [] 2 (c_X5_withoutGroups lu Dg E N G shp (hs σ 1 c) (z := g) (m := kz) hz (by omega)) gX5_runScript_X5_withoutGroups rfl rfl rfl (by decide +kernel) rfl ⟨Nat.le_of_ble_eq_true rfl, Nat.le_of_ble_eq_true rfl⟩ ⟨Nat.le_of_ble_eq_true rfl, Nat.le_of_ble_eq_true rfl⟩ (Nat.le_of_ble_eq_true rfl) rfl dX5_runScript_28 ?_
        refine v_lconst (lN 0) dX5_runScript_31 (by decide +kernel) ?_
        refine v_lcmp dX5_runScript_32 ?_
        refine v_if_eq 46 dX5_runScript_33 rfl (fun h33 => ?_) (fun h33 => ?_)
        · skip
          exact absurd ((lN_z0 (dvG_lt hz kz)).mp ((lg_cmp_eq _ _).mp h33)) hq
        · skip
          refine v_throwS (X := "java/lang/IllegalArgumentException") (names := ["java/lang/RuntimeException", "java/lang/Exception"]) hX9 hex9 hl9 rfl (by decide +kernel) (by decide +kernel) (by decide +kernel) (by decide +kernel) (strT_mem 230 (by decide +kernel)) (by decide +kernel) (by decide +kernel) (by decide +kernel) (by decide +kernel) dX5_runScript_36 dX5_runScript_39 dX5_runScript_40 dX5_runScript_42 dX5_runScript_45 (Nat.le_of_ble_eq_true rfl) (Nat.le_of_ble_eq_true rfl) (Nat.le_of_ble_eq_true rfl) (Nat.le_of_ble_eq_true rfl)
    · skip
      omega

set_option maxRecDepth 100000 in
theorem inX5_runScript_X5 : ∀ w ∈ wsX50, w ∈ wsX5_runScript := by decide +kernel
set_option maxHeartbeats 4000000 in
set_option maxRecDepth 100000 in
theorem c_X5_runScript_0 (lu : Launch) (Dg : va_G) (E : Nat → ClassId) (N : Nat) (G : Nat → Nat) (shp : Nat → (Nat → Int32) → va_E) (σ : Nat → Nat → Int32) (hS : StoodS E G shp N) (c : Nat → Int32) {s : Nat → Int32} {T : Nat} (r : Rel c s) (hIs : Inv T s) (hT : T ≤ 999000) (d : Nat → Int32) (hd : HoldsAt σ 44 d) {g kz : Nat} (h1 : 1 ≤ kz) (h3 : kz ≤ 3) (hz : g < 2 ^ 63) (hq : dvG g kz = 0)  : CS lu yX5_runScript wsX5_runScript { frames := 5, cells := 0, slots := 0, locals := 120 } Dg E N G shp (hs σ 1 c) [.ref (G 0), .int (nI kz), .long (lN g)] (some (.int ((scrC c kz g kz).2))) (hs (hs σ 44 (scrC c kz g kz).1) 1 c) := by
  refine CS.of (cc := cX5_runScript) (maxL := 6) (ret := (some .int)) (by decide) rfl (Nat.le_of_ble_eq_true rfl) ?_
  intro p_ e_ s_ m_ args_ below_ meth_ c_
  refine v_eq (pc' := 0) (st' := []) rfl rfl ?_
  refine v_loc [0, 1, 2] [(0, .ref (G 0)), (1, .int (nI kz)), (2, .long (lN g))] rfl ?_
  refine v_iload_n 1 dX5_runScript_0 rfl rfl ?_
  refine v_iconst (nI 1) dX5_runScript_1 (by decide +kernel) ?_
  refine v_icmp_ltN 10 (by omega) (by omega) dX5_runScript_2 rfl (fun h2 => ?_) (fun h2 => ?_)
  · skip
    omega
  · skip
    refine v_iload_n 1 dX5_runScript_5 rfl rfl ?_
    refine v_iconst (nI 3) dX5_runScript_6 (by decide +kernel) ?_
    refine v_icmp_leN 20 (by omega) (by omega) dX5_runScript_7 rfl (fun h7 => ?_) (fun h7 => ?_)
    · skip
      refine v_lload_n 2 dX5_runScript_20 rfl rfl ?_
      refine v_lconst (lN 0) dX5_runScript_21 (by decide +kernel) ?_
      refine v_lcmp dX5_runScript_22 ?_
      refine v_if_lt 36 dX5_runScript_23 rfl (fun h23 => ?_) (fun h23 => ?_)
      · skip
        exact absurd ((lg_cmp_lt _ _).mp h23) (lN_nn hz)
      · skip
        refine v_lload_n 2 dX5_runScript_26 rfl rfl ?_
        refine v_iload_n 1 dX5_runScript_27 rfl rfl ?_
        refine u_callSv [.long (lN g), .int (nI kz)] [] 2 (c_X5_withoutGroups lu Dg E N G shp (hs σ 1 c) (z := g) (m := kz) hz (by omega)) gX5_runScript_X5_withoutGroups rfl rfl rfl (by decide +kernel) rfl ⟨Nat.le_of_ble_eq_true rfl, Nat.le_of_ble_eq_true rfl⟩ ⟨Nat.le_of_ble_eq_true rfl, Nat.le_of_ble_eq_true rfl⟩ (Nat.le_of_ble_eq_true rfl) rfl dX5_runScript_28 ?_
        refine v_lconst (lN 0) dX5_runScript_31 (by decide +kernel) ?_
        refine v_lcmp dX5_runScript_32 ?_
        refine v_if_eq 46 dX5_runScript_33 rfl (fun h33 => ?_) (fun h33 => ?_)
        · skip
          refine v_aload_n 0 dX5_runScript_46 rfl rfl ?_
          refine u_getr (k := 1) (C := RX5) (T := TX5) (NF := 6) hS.o.1 hS.o.2 rfl rfl inX5_runScript_X5 (by decide) (by decide +kernel) rfl dX5_runScript_47 ?_
          refine v_aload_n 0 dX5_runScript_50 rfl rfl ?_
          refine u_getr (k := 0) (C := RX5) (T := TX5) (NF := 6) hS.o.1 hS.o.2 rfl rfl inX5_runScript_X5 (by decide) (by decide +kernel) rfl dX5_runScript_51 ?_
          refine u_callVn [.ref (G 1)] [] 1 ((c_X1_copyFrom lu Dg E N G shp σ (b := 44) hS.t (o := 1) hS.h (by omega) d c).preS (by rw [hd]) rfl) (ci := 1) (C := RX1) (T := TX1) (NF := 11) hS.t.n hS.t.s rfl gX5_runScript_X1_copyFrom rfl rfl rfl (by decide +kernel) rfl ⟨Nat.le_of_ble_eq_true rfl, Nat.le_of_ble_eq_true rfl⟩ ⟨Nat.le_of_ble_eq_true rfl, Nat.le_of_ble_eq_true rfl⟩ (Nat.le_of_ble_eq_true rfl) rfl dX5_runScript_54 ?_
          refine v_iconst (nI 0) dX5_runScript_57 (by decide +kernel) ?_
          refine v_istore [(4, .int (nI 0)), (0, .ref (G 0)), (1, .int (nI kz)), (2, .long (lN g))] dX5_runScript_58 (by decide) rfl ?_
          refine v_loc [0, 3, 2, 1] [(4, .int (nI 0)), (2, .long (lN g)), (1, .int (nI kz)), (0, .ref (G 0))] rfl ?_
          refine u_loop1 (fun n (j : Nat) => j + n = kz ∧ (scrC c kz g j).2 = -1) (fun (j : Nat) => hs (hs σ 1 c) 44 (scrC c kz g j).1) (fun (j : Nat) => [(4, .int (nI j)), (2, .long (lN g)), (1, .int (nI kz)), (0, .ref (G 0))]) (kz) 0 (⟨by omega, rfl⟩) ?_
          intro n j hL ih
          obtain ⟨hL1, hL2⟩ := hL
          refine v_iload 0 dX5_runScript_60 rfl ?_
          refine v_iload_n 2 dX5_runScript_62 rfl rfl ?_
          refine v_icmp_geN 104 (by omega) (by omega) dX5_runScript_63 rfl (fun h63 => ?_) (fun h63 => ?_)
          · skip
            have hjk9 : j = kz := by omega
            have ek9 : scrC c kz g kz = scrC c kz g j := by rw [hjk9]
            refine v_iconst ((-1)) dX5_runScript_104 (by decide +kernel) ?_
            refine v_iret rfl dX5_runScript_105 ⟨congrArg (fun z => some (Value.int z)) ?_, congrArg (φ shp) ?_⟩
            · rw [ek9]; exact hL2.symm
            · rw [ek9]; exact hs_comm (by omega)
          · skip
            have i1 := Inv.scr hIs (n := kz) (g := g) (k := j) (by omega)
            obtain ⟨r1, r2⟩ := Rel.scrE r hIs (n := kz) (g := g) (k := j) (by omega)
            have es : scrC c kz g (j + 1) = (succC (scrC c kz g j).1 (grp kz g j), ic (succPC (scrC c kz g j).1 (grp kz g j)) (-1) (nI j)) := by
              show scrStepC _ _ (scrC c kz g j) = _
              unfold scrStepC
              rw [ic_t hL2]
            refine v_lload_n 1 dX5_runScript_66 rfl rfl ?_
            refine v_iload_n 2 dX5_runScript_67 rfl rfl ?_
            refine v_iconst (nI 1) dX5_runScript_68 (by decide +kernel) ?_
            refine v_isubN (by omega) dX5_runScript_69 ?_
            refine v_iload 0 dX5_runScript_70 rfl ?_
            refine v_isubN (by omega) dX5_runScript_72 ?_
            refine u_callSv [.long (lN g), .int (nI ((kz - 1) - j))] [] 2 (c_X5_withoutGroups lu Dg E N G shp (hs (hs σ 1 c) 44 (scrC c kz g j).1) (z := g) (m := kz - 1 - j) hz (by omega)) gX5_runScript_X5_withoutGroups rfl rfl rfl (by decide +kernel) rfl ⟨Nat.le_of_ble_eq_true rfl, Nat.le_of_ble_eq_true rfl⟩ ⟨Nat.le_of_ble_eq_true rfl, Nat.le_of_ble_eq_true rfl⟩ (Nat.le_of_ble_eq_true rfl) rfl dX5_runScript_73 ?_
            refine v_ldc2 (v := (100000)) (by decide +kernel) dX5_runScript_76 ?_
            refine v_st (st' := [.long (lN 100000), .long (lN (dvG g (kz - 1 - j)))]) (by first | rfl | decide +kernel) ?_
            refine v_lrem dX5_runScript_79 (by decide +kernel) ?_
            refine v_st (st' := [.long (lN (grp kz g j))]) (by rw [pk_lRem (dvG_lt hz _) (by omega) (by omega), dvG_eq]; rfl) ?_
            refine v_l2i dX5_runScript_80 ?_
            refine v_topi (nI (grp kz g j)) (lN_i _) ?_
            refine v_istore [(5, .int (nI (grp kz g j))), (4, .int (nI j)), (2, .long (lN g)), (1, .int (nI kz)), (0, .ref (G 0))] dX5_runScript_81 (by decide) rfl ?_
            refine v_aload_n 4 dX5_runScript_83 rfl rfl ?_
            refine u_getr (k := 1) (C := RX5) (T := TX5) (NF := 6) hS.o.1 hS.o.2 rfl rfl inX5_runScript_X5 (by decide) (by decide +kernel) rfl dX5_runScript_84 ?_
            refine v_iload 0 dX5_runScript_87 rfl ?_
            refine u_callVv [.int (nI (grp kz g j))] [] 1 (c_X1_obeys lu Dg E N G shp (hs σ 1 c) (b := 44) hS.t ((scrC c kz g j).1) (r1.inv i1) (g := grp kz g j) (grp_lt kz g j) (by omega)) (ci := 1) (C := RX1) (T := TX1) (NF := 11) hS.t.n hS.t.s rfl gX5_runScript_X1_obeys rfl rfl rfl (by decide +kernel) rfl ⟨Nat.le_of_ble_eq_true rfl, Nat.le_of_ble_eq_true rfl⟩ ⟨Nat.le_of_ble_eq_true rfl, Nat.le_of_ble_eq_true rfl⟩ (Nat.le_of_ble_eq_true rfl) rfl dX5_runScript_89 ?_
            refine v_if_neB 98 dX5_runScript_92 rfl (fun h92 => ?_) (fun h92 => ?_)
            · skip
              have es1 : (scrC c kz g (j + 1)).2 = -1 := by rw [es]; exact ic_t h92
              refine v_σ (hs (hs σ 1 c) 44 (scrC c kz g (j + 1)).1) (by rw [es]) ?_
              refine v_iincN 1 [(4, .int (nI (j + 1))), (5, .int (nI (grp kz g j))), (2, .long (lN g)), (1, .int (nI kz)), (0, .ref (G 0))] dX5_runScript_98 rfl (by decide) rfl ?_
              refine v_goto 60 dX5_runScript_101 rfl ?_
              refine v_loc [0, 2, 3, 4] [(4, .int (nI (j + 1))), (2, .long (lN g)), (1, .int (nI kz)), (0, .ref (G 0))] rfl ?_
              exact ih _ (j + 1) (show n - 1 < n by omega) (⟨by omega, es1⟩)
            · skip
              have e2 : (scrC c kz g (j + 1)).2 = nI j := by rw [es]; exact ic_f h92
              have ek : scrC c kz g kz = scrC c kz g (j + 1) := scrC_stay (by omega) (by rw [e2]; exact nI_m1 (by omega))
              refine v_iload 1 dX5_runScript_95 rfl ?_
              refine v_iret rfl dX5_runScript_97 ⟨congrArg (fun z => some (Value.int z)) ?_, congrArg (φ shp) ?_⟩
              · rw [ek]; exact e2.symm
              · rw [ek, es]; exact hs_comm (by omega)
        · skip
          exact absurd ((lg_cmp_eq _ _).mpr ((lN_z0 (dvG_lt hz kz)).mpr hq)) h33
    · skip
      omega
