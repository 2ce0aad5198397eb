/-- k groups of five digits fewer -/
def dvG (z : Nat) : Nat → Nat | 0 => z | k + 1 => dvG z k / 100000
theorem dvG_lt {z : Nat} (hz : z < 2 ^ 63) : ∀ k, dvG z k < 2 ^ 63
  | 0 => hz
  | k + 1 => Nat.lt_of_le_of_lt (Nat.div_le_self _ _) (dvG_lt hz k)
theorem dvG_eq (z : Nat) : ∀ k, dvG z k = z / 100000 ^ k
  | 0 => (Nat.div_one z).symm
  | k + 1 => by
    show dvG z k / 100000 = _
    rw [dvG_eq z k, Nat.div_div_eq_div_mul, ← Nat.pow_succ]
set_option maxHeartbeats 4000000 in
set_option maxRecDepth 100000 in
/-- withoutGroups -/
theorem c_X5_withoutGroups (lu : Launch) (Dg : va_G) (E : Nat → ClassId) (N : Nat) (G : Nat → Nat) (shp : Nat → (Nat → Int32) → va_E) (σ : Nat → Nat → Int32)  {z m : Nat} (hz : z < 2 ^ 63) (hm : m < 2 ^ 31)  : CS lu yX5_withoutGroups wsX5_withoutGroups { frames := 0, cells := 0, slots := 0, locals := 0 } Dg E N G shp σ [.long (lN z), .int (nI m)] (some (.long (lN (dvG z m)))) σ := by
  refine CS.of (cc := cX5_withoutGroups) (maxL := 6) (ret := (some .long)) (by decide) rfl (Nat.le_of_ble_eq_true rfl) ?_
  intro p_ e_ s_ m_ args_ below_ meth_ c_
  refine v_eq (pc' := 0) (st' := []) rfl rfl ?_
  refine v_loc [0, 1] [(0, .long (lN z)), (2, .int (nI m))] rfl ?_
  refine v_lload_n 0 dX5_withoutGroups_0 rfl rfl ?_
  refine v_lstore_n [(3, .long (lN z)), (0, .long (lN z)), (2, .int (nI m))] dX5_withoutGroups_1 rfl (by decide) rfl ?_
  refine v_iconst (nI 0) dX5_withoutGroups_2 (by decide +kernel) ?_
  refine v_istore [(5, .int (nI 0)), (3, .long (lN z)), (0, .long (lN z)), (2, .int (nI m))] dX5_withoutGroups_3 (by decide) rfl ?_
  refine v_loc [0, 1, 3] [(5, .int (nI 0)), (3, .long (lN z)), (2, .int (nI m))] rfl ?_
  refine u_loop1 (fun n (j : Nat) => j + n = m) (fun (j : Nat) => σ) (fun (j : Nat) => [(5, .int (nI j)), (3, .long (lN (dvG z j))), (2, .int (nI m))]) (m) 0 ((by omega)) ?_
  intro n j hL ih
  refine v_iload 0 dX5_withoutGroups_5 rfl ?_
  refine v_iload_n 2 dX5_withoutGroups_7 rfl rfl ?_
  refine v_icmp_geN 23 (by omega) (by omega) dX5_withoutGroups_8 rfl (fun h8 => ?_) (fun h8 => ?_)
  · skip
    have hjk9 : j = m := by omega
    refine v_lload_n 1 dX5_withoutGroups_23 rfl rfl ?_
    refine v_lret rfl dX5_withoutGroups_24 ⟨congrArg (fun z => some (Value.long z)) ?_, congrArg (φ shp) ?_⟩
    · rw [hjk9]
    · rfl
  · skip
    have hzj := dvG_lt hz j
    refine v_lload_n 1 dX5_withoutGroups_11 rfl rfl ?_
    refine v_ldc2 (v := (100000)) (by decide +kernel) dX5_withoutGroups_12 ?_
    refine v_st (st' := [.long (lN 100000), .long (lN (dvG z j))]) (by first | rfl | decide +kernel) ?_
    refine v_ldiv dX5_withoutGroups_15 (by decide +kernel) ?_
    refine v_st (st' := [.long (lN (dvG z (j + 1)))]) (by rw [pk_lDiv hzj (by omega) (by omega)]; rfl) ?_
    refine v_lstore_n [(3, .long (lN (dvG z (j + 1)))), (5, .int (nI j)), (2, .int (nI m))] dX5_withoutGroups_16 rfl (by decide) rfl ?_
    refine v_iincN 1 [(5, .int (nI (j + 1))), (3, .long (lN (dvG z (j + 1)))), (2, .int (nI m))] dX5_withoutGroups_17 rfl (by decide) rfl ?_
    refine v_goto 5 dX5_withoutGroups_20 rfl ?_
    refine v_loc [0, 1, 2] [(5, .int (nI (j + 1))), (3, .long (lN (dvG z (j + 1)))), (2, .int (nI m))] rfl ?_
    exact ih _ (j + 1) (show n - 1 < n by omega) (by omega)

set_option maxHeartbeats 4000000 in
set_option maxRecDepth 100000 in
theorem c_X5_simulate_x (lu : Launch) (hl9 : lu.stackTraces = false) (Dg : va_G) (E : Nat → ClassId) (N : Nat) (G : Nat → Nat) (shp : Nat → (Nat → Int32) → va_E) (σ : Nat → Nat → Int32) (hS : StoodS E G shp N) (c : Nat → Int32) (z : Int64) (x : Int32) (hx : ¬ (nI 1 ≤ x ∧ x ≤ nI 99)) : Thr lu yX5_simulate wsX5_simulate { frames := 6, cells := 1, slots := 6, locals := 140 } Dg E N G (φ shp (hs σ 1 c)) [.ref (G 0), .long z, .int x] "java/lang/IllegalArgumentException" := by
  refine Thr.of (cc := cX5_simulate) (maxL := 8) (ret := (some .int)) (by decide) rfl (Nat.le_of_ble_eq_true rfl) ?_
  intro p_ e_ s_ m_ args_ below_ meth_ c_ hX9 hex9
  refine v_eq (pc' := 0) (st' := []) rfl rfl ?_
  refine v_loc [0, 1, 2] [(0, .ref (G 0)), (1, .long z), (3, .int x)] rfl ?_
  refine v_iload_n 2 dX5_simulate_0 rfl rfl ?_
  refine v_iconst (nI 1) dX5_simulate_1 (by decide +kernel) ?_
  refine v_icmp_lt 11 dX5_simulate_2 rfl (fun h2 => ?_) (fun h2 => ?_)
  · skip
    refine v_throwS (X := "java/lang/IllegalArgumentException") (names := ["java/lang/RuntimeException", "java/lang/Exception"]) hX9 hex9 hl9 rfl (by decide +kernel) (by decide +kernel) (by decide +kernel) (by decide +kernel) (strT_mem 240 (by decide +kernel)) (by decide +kernel) (by decide +kernel) (by decide +kernel) (by decide +kernel) dX5_simulate_11 dX5_simulate_14 dX5_simulate_15 dX5_simulate_17 dX5_simulate_20 (Nat.le_of_ble_eq_true rfl) (Nat.le_of_ble_eq_true rfl) (Nat.le_of_ble_eq_true rfl) (Nat.le_of_ble_eq_true rfl)
  · skip
    refine v_iload_n 2 dX5_simulate_5 rfl rfl ?_
    refine v_bipush (nI 99) dX5_simulate_6 (by decide +kernel) ?_
    refine v_icmp_le 21 dX5_simulate_8 rfl (fun h8 => ?_) (fun h8 => ?_)
    · skip
      exact absurd ⟨Int32.not_lt.mp h2, h8⟩ hx
    · skip
      refine v_throwS (X := "java/lang/IllegalArgumentException") (names := ["java/lang/RuntimeException", "java/lang/Exception"]) hX9 hex9 hl9 rfl (by decide +kernel) (by decide +kernel) (by decide +kernel) (by decide +kernel) (strT_mem 240 (by decide +kernel)) (by decide +kernel) (by decide +kernel) (by decide +kernel) (by decide +kernel) dX5_simulate_11 dX5_simulate_14 dX5_simulate_15 dX5_simulate_17 dX5_simulate_20 (Nat.le_of_ble_eq_true rfl) (Nat.le_of_ble_eq_true rfl) (Nat.le_of_ble_eq_true rfl) (Nat.le_of_ble_eq_true rfl)

set_option maxRecDepth 100000 in
theorem inX5_simulate_X1 : ∀ w ∈ wsX10, w ∈ wsX5_simulate := by decide +kernel
set_option maxRecDepth 100000 in
theorem inX5_simulate_X5 : ∀ w ∈ wsX50, w ∈ wsX5_simulate := by decide +kernel
set_option maxHeartbeats 4000000 in
set_option maxRecDepth 100000 in
theorem c_X5_simulate_0 (lu : Launch) (Dg : va_G) (E : Nat → ClassId) (N : Nat) (G : Nat → Nat) (shp : Nat → (Nat → Int32) → va_E) (σ : Nat → Nat → Int32) (hS : StoodS E G shp N) (c : Nat → Int32) {s : Nat → Int32} {T : Nat} (r : Rel c s) (hIs : Inv T s) (hT : T ≤ 999000) (hl1 : 1 ≤ tn (s 1)) (d : Nat → Int32) (hd : HoldsAt σ 44 d) (z : Int64) {kz : Nat} (h1 : 1 ≤ kz) (h99 : kz ≤ 99)  : CS lu yX5_simulate wsX5_simulate { frames := 5, cells := 0, slots := 0, locals := 120 } Dg E N G shp (hs σ 1 c) [.ref (G 0), .long z, .int (nI kz)] (some (.int (nI (1000 * simCN c z kz) + (if simC c z kz 5 - c 5 < nI 999 then simC c z kz 5 - c 5 else nI 999)))) (hs (hs σ 44 (simC c z kz)) 1 c) := by
  refine CS.of (cc := cX5_simulate) (maxL := 8) (ret := (some .int)) (by decide) rfl (Nat.le_of_ble_eq_true rfl) ?_
  intro p_ e_ s_ m_ args_ below_ meth_ c_
  refine v_eq (pc' := 0) (st' := []) rfl rfl ?_
  refine v_loc [0, 1, 2] [(0, .ref (G 0)), (1, .long z), (3, .int (nI kz))] rfl ?_
  refine v_iload_n 2 dX5_simulate_0 rfl rfl ?_
  refine v_iconst (nI 1) dX5_simulate_1 (by decide +kernel) ?_
  refine v_icmp_ltN 11 (by omega) (by omega) dX5_simulate_2 rfl (fun h2 => ?_) (fun h2 => ?_)
  · skip
    omega
  · skip
    refine v_iload_n 2 dX5_simulate_5 rfl rfl ?_
    refine v_bipush (nI 99) dX5_simulate_6 (by decide +kernel) ?_
    refine v_icmp_leN 21 (by omega) (by omega) dX5_simulate_8 rfl (fun h8 => ?_) (fun h8 => ?_)
    · skip
      refine v_aload_n 0 dX5_simulate_21 rfl rfl ?_
      refine u_getr (k := 1) (C := RX5) (T := TX5) (NF := 6) hS.o.1 hS.o.2 rfl rfl inX5_simulate_X5 (by decide) (by decide +kernel) rfl dX5_simulate_22 ?_
      refine v_aload_n 0 dX5_simulate_25 rfl rfl ?_
      refine u_getr (k := 0) (C := RX5) (T := TX5) (NF := 6) hS.o.1 hS.o.2 rfl rfl inX5_simulate_X5 (by decide) (by decide +kernel) rfl dX5_simulate_26 ?_
      refine u_callVn [.ref (G 1)] [] 1 ((c_X1_copyFrom lu Dg E N G shp σ (b := 44) hS.t (o := 1) hS.h (by omega) d c).preS (by rw [hd]) rfl) (ci := 1) (C := RX1) (T := TX1) (NF := 11) hS.t.n hS.t.s rfl gX5_simulate_X1_copyFrom rfl rfl rfl (by decide +kernel) rfl ⟨Nat.le_of_ble_eq_true rfl, Nat.le_of_ble_eq_true rfl⟩ ⟨Nat.le_of_ble_eq_true rfl, Nat.le_of_ble_eq_true rfl⟩ (Nat.le_of_ble_eq_true rfl) rfl dX5_simulate_29 ?_
      refine v_lload_n 1 dX5_simulate_32 rfl rfl ?_
      refine v_lstore [(4, .long z), (0, .ref (G 0)), (1, .long z), (3, .int (nI kz))] dX5_simulate_33 (by decide) rfl ?_
      refine v_iconst (nI 0) dX5_simulate_35 (by decide +kernel) ?_
      refine v_istore [(6, .int (nI 0)), (4, .long z), (0, .ref (G 0)), (1, .long z), (3, .int (nI kz))] dX5_simulate_36 (by decide) rfl ?_
      refine v_iconst (nI 0) dX5_simulate_38 (by decide +kernel) ?_
      refine v_istore [(7, .int (nI 0)), (6, .int (nI 0)), (4, .long z), (0, .ref (G 0)), (1, .long z), (3, .int (nI kz))] dX5_simulate_39 (by decide) rfl ?_
      refine v_loc [0, 1, 2, 5, 3] [(7, .int (nI 0)), (6, .int (nI 0)), (4, .long z), (3, .int (nI kz)), (0, .ref (G 0))] rfl ?_
      refine u_loop1 (fun n (j : Nat) => j + n = kz) (fun (j : Nat) => hs (hs σ 1 c) 44 (simC c z j)) (fun (j : Nat) => [(7, .int (nI j)), (6, .int (nI (simCN c z j))), (4, .long (seedX z j)), (3, .int (nI kz)), (0, .ref (G 0))]) (kz) 0 ((by omega)) ?_
      intro n j hL ih
      refine v_iload 0 dX5_simulate_41 rfl ?_
      refine v_iload_n 3 dX5_simulate_43 rfl rfl ?_
      refine v_icmp_geN 91 (by omega) (by omega) dX5_simulate_44 rfl (fun h44 => ?_) (fun h44 => ?_)
      · skip
        have hjk9 : j = kz := by omega
        refine v_σ (hs (hs σ 1 c) 44 (simC c z kz)) (by rw [hjk9]) ?_
        refine v_locv 6 (nI (simCN c z kz)) 1 [(7, .int (nI j)), (6, .int (nI (simCN c z kz))), (4, .long (seedX z j)), (3, .int (nI kz)), (0, .ref (G 0))] rfl (by rw [hjk9]) rfl ?_
        refine v_sipush (nI 1000) dX5_simulate_91 (by decide +kernel) ?_
        refine v_iload 1 dX5_simulate_94 rfl ?_
        refine v_imulN dX5_simulate_96 ?_
        refine v_sipush (nI 999) dX5_simulate_97 (by decide +kernel) ?_
        refine v_aload_n 4 dX5_simulate_100 rfl rfl ?_
        refine u_getr (k := 1) (C := RX5) (T := TX5) (NF := 6) hS.o.1 hS.o.2 rfl rfl inX5_simulate_X5 (by decide) (by decide +kernel) rfl dX5_simulate_101 ?_
        refine u_geti (k := 5) (C := RX1) (T := TX1) (NF := 11) hS.t.n hS.t.s rfl rfl inX5_simulate_X1 (by decide) (by decide +kernel) rfl dX5_simulate_104 ?_
        refine v_topi (simC c z kz 5) (((congrFun hs_b 5).trans (hF5 _))) ?_
        refine v_aload_n 4 dX5_simulate_107 rfl rfl ?_
        refine u_getr (k := 0) (C := RX5) (T := TX5) (NF := 6) hS.o.1 hS.o.2 rfl rfl inX5_simulate_X5 (by decide) (by decide +kernel) rfl dX5_simulate_108 ?_
        refine u_geti (k := 5) (C := RX1) (T := TX1) (NF := 11) hS.h.n hS.h.s rfl rfl inX5_simulate_X1 (by decide) (by decide +kernel) rfl dX5_simulate_111 ?_
        refine v_topi (c 5) ((by rw [hs_out (by omega)]; exact (congrFun hs_b 5).trans (hF5 _))) ?_
        refine v_isub dX5_simulate_114 ?_
        refine v_mmin (by decide +kernel) (by decide +kernel) (by decide +kernel) (by decide +kernel) (Nat.le_of_ble_eq_true rfl) (Nat.le_of_ble_eq_true rfl) ⟨Nat.le_of_ble_eq_true rfl, Nat.le_of_ble_eq_true rfl⟩ dX5_simulate_115 ?_
        refine v_iadd dX5_simulate_118 ?_
        refine v_iret rfl dX5_simulate_119 ⟨congrArg (fun z => some (Value.int z)) ?_, congrArg (φ shp) ?_⟩
        · rfl
        · exact hs_comm (by omega)
      · skip
        obtain ⟨i1, i2⟩ := Inv.sim hIs hl1 z (k := j) (by omega)
        obtain ⟨r1, r2⟩ := Rel.simE r hIs hl1 z (k := j) (by omega)
        have h30 := i1.np30
        have e2 : simC c z j 2 = simS s z j 2 := r1.h (by omega)
        have ht8 := i1.turnI (r := seedR z j) (n := max 1 (tn (simS s z j 2))) (seedR_lt z j) (by omega) (by omega) (by rw [i2]; exact hl1)
        have ht9 := (r1.turnE i1 (u := seedR z j) (n := max 1 (tn (simS s z j 2))) (seedR_lt z j) (by omega) (by omega) (by rw [i2]; exact hl1)).inv ht8
        rw [← e2] at ht9
        have h1j : 1 ≤ tn (simC c z j 1) := by rw [r1.h (by omega : 1 < 10), i2]; exact hl1
        refine v_lload 2 dX5_simulate_47 rfl ?_
        refine v_ldc2 (v := (6364136223846793005)) (by decide +kernel) dX5_simulate_49 ?_
        refine v_lmul dX5_simulate_52 ?_
        refine v_ldc2 (v := (1442695040888963407)) (by decide +kernel) dX5_simulate_53 ?_
        refine v_ladd dX5_simulate_56 ?_
        refine v_st (st' := [.long (seedX z (j + 1))]) rfl ?_
        refine v_lstore [(4, .long (seedX z (j + 1))), (7, .int (nI j)), (6, .int (nI (simCN c z j))), (3, .int (nI kz)), (0, .ref (G 0))] dX5_simulate_57 (by decide) rfl ?_
        refine v_aload_n 4 dX5_simulate_59 rfl rfl ?_
        refine u_getr (k := 1) (C := RX5) (T := TX5) (NF := 6) hS.o.1 hS.o.2 rfl rfl inX5_simulate_X5 (by decide) (by decide +kernel) rfl dX5_simulate_60 ?_
        refine v_lload 0 dX5_simulate_63 rfl ?_
        refine v_bipush (nI 33) dX5_simulate_65 (by decide +kernel) ?_
        refine v_lushr dX5_simulate_67 ?_
        refine v_l2i dX5_simulate_68 ?_
        refine v_topi (nI (seedR z j)) (seedR_eq z j) ?_
        refine u_callVn [.int (nI (seedR z j))] [] 1 (c_X1_takeTurn lu Dg E N G shp (hs σ 1 c) (b := 44) hS.t (simC c z j) (r1.inv i1) (r := seedR z j) (seedR_lt z j) h1j) (ci := 1) (C := RX1) (T := TX1) (NF := 11) hS.t.n hS.t.s rfl gX5_simulate_X1_takeTurn rfl rfl rfl (by decide +kernel) rfl ⟨Nat.le_of_ble_eq_true rfl, Nat.le_of_ble_eq_true rfl⟩ ⟨Nat.le_of_ble_eq_true rfl, Nat.le_of_ble_eq_true rfl⟩ (Nat.le_of_ble_eq_true rfl) rfl dX5_simulate_69 ?_
        refine v_iload 2 dX5_simulate_72 rfl ?_
        refine v_aload_n 4 dX5_simulate_74 rfl rfl ?_
        refine u_getr (k := 1) (C := RX5) (T := TX5) (NF := 6) hS.o.1 hS.o.2 rfl rfl inX5_simulate_X5 (by decide) (by decide +kernel) rfl dX5_simulate_75 ?_
        refine v_iconst (nI 1) dX5_simulate_78 (by decide +kernel) ?_
        refine u_callVv [.int (nI 1)] [.int (nI (simCN c z j))] 1 (c_X1_letPass lu Dg E N G shp (hs σ 1 c) (b := 44) hS.t (turnC (simC c z j) (seedR z j) (max 1 (tn (simC c z j 2)))) 1 (by omega) (fun k9 hk9 => ⟨T + j, by rw [show k9 = 0 by omega]; exact ht9⟩)) (ci := 1) (C := RX1) (T := TX1) (NF := 11) hS.t.n hS.t.s rfl gX5_simulate_X1_letPass rfl rfl rfl (by decide +kernel) rfl ⟨Nat.le_of_ble_eq_true rfl, Nat.le_of_ble_eq_true rfl⟩ ⟨Nat.le_of_ble_eq_true rfl, Nat.le_of_ble_eq_true rfl⟩ (Nat.le_of_ble_eq_true rfl) rfl dX5_simulate_79 ?_
        refine v_topi (nI (minuteN (turnC (simC c z j) (seedR z j) (max 1 (tn (simC c z j 2)))))) (congrArg nI (Nat.zero_add _)) ?_
        refine v_σ (hs (hs σ 1 c) 44 (simC c z (j + 1))) (rfl) ?_
        refine v_iaddN dX5_simulate_82 ?_
        refine v_topi (nI (simCN c z (j + 1))) (rfl) ?_
        refine v_istore [(6, .int (nI (simCN c z (j + 1)))), (4, .long (seedX z (j + 1))), (7, .int (nI j)), (3, .int (nI kz)), (0, .ref (G 0))] dX5_simulate_83 (by decide) rfl ?_
        refine v_iincN 2 [(7, .int (nI (j + 1))), (6, .int (nI (simCN c z (j + 1)))), (4, .long (seedX z (j + 1))), (3, .int (nI kz)), (0, .ref (G 0))] dX5_simulate_85 rfl (by decide) rfl ?_
        refine v_goto 41 dX5_simulate_88 rfl ?_
        refine v_loc [0, 1, 2, 3, 4] [(7, .int (nI (j + 1))), (6, .int (nI (simCN c z (j + 1)))), (4, .long (seedX z (j + 1))), (3, .int (nI kz)), (0, .ref (G 0))] rfl ?_
        exact ih _ (j + 1) (show n - 1 < n by omega) (by omega)
    · skip
      omega
