set_option maxHeartbeats 4000000 in
set_option maxRecDepth 100000 in
/-- of -/
theorem c_X6_of (lu : Launch) (Dg : va_G) (E : Nat → ClassId) (N : Nat) (G : Nat → Nat) (shp : Nat → (Nat → Int32) → va_E) (σ : Nat → Nat → Int32)  (p q : Nat)  : CS lu yX6_of wsX6_of { frames := 0, cells := 0, slots := 0, locals := 0 } Dg E N G shp σ [.int (nI p), .int (nI q)] (some (.int (nI (58 + 10 * p + q)))) σ := by
  refine CS.of (cc := cX6_of) (maxL := 2) (ret := (some .int)) (by decide) rfl (Nat.le_of_ble_eq_true rfl) ?_
  intro p_ e_ s_ m_ args_ below_ meth_ c_
  refine v_eq (pc' := 0) (st' := []) rfl rfl ?_
  refine v_loc [0, 1] [(0, .int (nI p)), (1, .int (nI q))] rfl ?_
  refine v_bipush (nI 58) dX6_of_0 (by decide +kernel) ?_
  refine v_bipush (nI 10) dX6_of_2 (by decide +kernel) ?_
  refine v_iload_n 0 dX6_of_4 rfl rfl ?_
  refine v_imulN dX6_of_5 ?_
  refine v_iaddN dX6_of_6 ?_
  refine v_iload_n 1 dX6_of_7 rfl rfl ?_
  refine v_iaddN dX6_of_8 ?_
  refine v_iret rfl dX6_of_9 ⟨congrArg (fun z => some (Value.int z)) ?_, congrArg (φ shp) ?_⟩
  · rfl
  · rfl

set_option maxHeartbeats 4000000 in
set_option maxRecDepth 100000 in
/-- in -/
theorem c_X6_in (lu : Launch) (Dg : va_G) (E : Nat → ClassId) (N : Nat) (G : Nat → Nat) (shp : Nat → (Nat → Int32) → va_E) (σ : Nat → Nat → Int32)  (x y z : Int32)  : CS lu yX6_in wsX6_in { frames := 0, cells := 0, slots := 0, locals := 0 } Dg E N G shp σ [.int x, .int y, .int z] (some (.int (bi (y ≤ x ∧ x ≤ z)))) σ := by
  refine CS.of (cc := cX6_in) (maxL := 3) (ret := (some .boolean)) (by decide) rfl (Nat.le_of_ble_eq_true rfl) ?_
  intro p_ e_ s_ m_ args_ below_ meth_ c_
  refine v_eq (pc' := 0) (st' := []) rfl rfl ?_
  refine v_loc [0, 1, 2] [(0, .int x), (1, .int y), (2, .int z)] rfl ?_
  refine v_iload_n 0 dX6_in_0 rfl rfl ?_
  refine v_iload_n 1 dX6_in_1 rfl rfl ?_
  refine v_icmp_lt 14 dX6_in_2 rfl (fun h2 => ?_) (fun h2 => ?_)
  · skip
    refine v_iconst (nI 0) dX6_in_14 (by decide +kernel) ?_
    refine v_zret rfl (by decide +kernel) dX6_in_15 ⟨congrArg (fun z => some (Value.int z)) ?_, congrArg (φ shp) ?_⟩
    · first | exact bi_nf (fun h => absurd h.1 (Int32.not_le.mpr h2)) | exact bi_nf (fun h => absurd h.2 (Int32.not_le.mpr h7))
    · rfl
  · skip
    refine v_iload_n 0 dX6_in_5 rfl rfl ?_
    refine v_iload_n 2 dX6_in_6 rfl rfl ?_
    refine v_icmp_gt 14 dX6_in_7 rfl (fun h7 => ?_) (fun h7 => ?_)
    · skip
      refine v_iconst (nI 0) dX6_in_14 (by decide +kernel) ?_
      refine v_zret rfl (by decide +kernel) dX6_in_15 ⟨congrArg (fun z => some (Value.int z)) ?_, congrArg (φ shp) ?_⟩
      · first | exact bi_nf (fun h => absurd h.1 (Int32.not_le.mpr h2)) | exact bi_nf (fun h => absurd h.2 (Int32.not_le.mpr h7))
      · rfl
    · skip
      refine v_iconst (nI 1) dX6_in_10 (by decide +kernel) ?_
      refine v_goto 15 dX6_in_11 rfl ?_
      refine v_zret rfl (by decide +kernel) dX6_in_15 ⟨congrArg (fun z => some (Value.int z)) ?_, congrArg (φ shp) ?_⟩
      · exact bi_nt ⟨Int32.not_lt.mp h2, Int32.not_lt.mp h7⟩
      · rfl

set_option maxRecDepth 100000 in
theorem inX6_holds_X6 : ∀ w ∈ wsX60, w ∈ wsX6_holds := by decide +kernel
set_option maxHeartbeats 4000000 in
set_option maxRecDepth 100000 in
/-- holds -/
theorem c_X6_holds (lu : Launch) (Dg : va_G) (E : Nat → ClassId) (N : Nat) (G : Nat → Nat) (shp : Nat → (Nat → Int32) → va_E) (σ : Nat → Nat → Int32) {b : Nat} (hM : ModS E G shp N b) (f0 f1 f2 f3 f4 f5 f6 : Nat → Int32) (k : Nat) (hk : k < 2 ^ 31)  : CS lu yX6_holds wsX6_holds { frames := 0, cells := 0, slots := 0, locals := 0 } Dg E N G shp (mk7 σ b f0 f1 f2 f3 f4 f5 f6) [.ref (G b), .int (nI k)] (some (.int (bi (k = 0)))) (mk7 σ b (upd f0 0 (nI k)) f1 f2 f3 f4 f5 f6) := by
  refine CS.of (cc := cX6_holds) (maxL := 2) (ret := (some .boolean)) (by decide) rfl (Nat.le_of_ble_eq_true rfl) ?_
  intro p_ e_ s_ m_ args_ below_ meth_ c_
  refine v_eq (pc' := 0) (st' := []) rfl rfl ?_
  refine v_loc [0, 1] [(0, .ref (G b)), (1, .int (nI k))] rfl ?_
  refine v_aload_n 0 dX6_holds_0 rfl rfl ?_
  refine v_iload_n 1 dX6_holds_1 rfl rfl ?_
  refine m_puti (k := 0) (ty := .int) hM rfl inX6_holds_X6 (by decide) (by decide +kernel) rfl rfl (by decide +kernel) ⟨rfl, rfl⟩ dX6_holds_2 ?_
  generalize hg1 : upd f0 0 (nI k) = g1
  refine v_iload_n 1 dX6_holds_5 rfl rfl ?_
  refine v_if_neN 13 (by omega) dX6_holds_6 rfl (fun h6 => ?_) (fun h6 => ?_)
  · skip
    refine v_iconst (nI 0) dX6_holds_13 (by decide +kernel) ?_
    refine v_zret rfl (by decide +kernel) dX6_holds_14 ⟨congrArg (fun z => some (Value.int z)) ?_, congrArg (φ shp) ?_⟩
    · exact bi_nf (by omega)
    · subst hg1; rfl
  · skip
    refine v_iconst (nI 1) dX6_holds_9 (by decide +kernel) ?_
    refine v_goto 14 dX6_holds_10 rfl ?_
    refine v_zret rfl (by decide +kernel) dX6_holds_14 ⟨congrArg (fun z => some (Value.int z)) ?_, congrArg (φ shp) ?_⟩
    · exact bi_nt (by omega)
    · subst hg1; rfl

set_option maxRecDepth 100000 in
theorem inX6_thrown_X6 : ∀ w ∈ wsX60, w ∈ wsX6_thrown := by decide +kernel
set_option maxHeartbeats 4000000 in
set_option maxRecDepth 100000 in
/-- thrown -/
theorem c_X6_thrown (lu : Launch) (Dg : va_G) (E : Nat → ClassId) (N : Nat) (G : Nat → Nat) (shp : Nat → (Nat → Int32) → va_E) (σ : Nat → Nat → Int32) {b : Nat} (hM : ModS E G shp N b) (f0 f1 f2 f3 f4 f5 f6 : Nat → Int32)   : CS lu yX6_thrown wsX6_thrown { frames := 0, cells := 0, slots := 0, locals := 0 } Dg E N G shp (mk7 σ b f0 f1 f2 f3 f4 f5 f6) [.ref (G b)] (some (.int (f0 0))) (mk7 σ b f0 f1 f2 f3 f4 f5 f6) := by
  refine CS.of (cc := cX6_thrown) (maxL := 1) (ret := (some .int)) (by decide) rfl (Nat.le_of_ble_eq_true rfl) ?_
  intro p_ e_ s_ m_ args_ below_ meth_ c_
  refine v_eq (pc' := 0) (st' := []) rfl rfl ?_
  refine v_loc [0] [(0, .ref (G b))] rfl ?_
  refine v_aload_n 0 dX6_thrown_0 rfl rfl ?_
  refine m_geti (k := 0) hM rfl inX6_thrown_X6 (by decide) (by decide +kernel) rfl dX6_thrown_1 ?_
  refine v_iret rfl dX6_thrown_4 ⟨congrArg (fun z => some (Value.int z)) ?_, congrArg (φ shp) ?_⟩
  · rfl
  · rfl

theorem beginF_eq (f : Nat → Int32) (i : Nat) : upd (upd (upd (upd (zeroF f 0 358) 6 (nI 30)) 7 (nI 5)) 8 (nI 2)) 9 (nI 2) i = if i < 358 then beginF i else f i := by
  simp only [beginF, upd_ap, zeroF]
  grind
set_option maxRecDepth 100000 in
theorem inX6_begin_X6 : ∀ w ∈ wsX60, w ∈ wsX6_begin := by decide +kernel
set_option maxHeartbeats 4000000 in
set_option maxRecDepth 100000 in
/-- begin -/
theorem c_X6_begin (lu : Launch) (Dg : va_G) (E : Nat → ClassId) (N : Nat) (G : Nat → Nat) (shp : Nat → (Nat → Int32) → va_E) (σ : Nat → Nat → Int32) {b : Nat} (hM : ModS E G shp N b) (f0 f1 f2 f3 f4 f5 f6 : Nat → Int32)   : CS lu yX6_begin wsX6_begin { frames := 0, cells := 0, slots := 0, locals := 0 } Dg E N G shp (mk7 σ b f0 f1 f2 f3 f4 f5 f6) [.ref (G b)] none (mk7 σ b (upd f0 5 (nI 0)) (fun i => if i < 358 then beginF i else f1 i) f2 f3 f4 (upd (upd f5 0 (nI 0)) 1 (nI 0)) f6) := by
  refine CS.of (cc := cX6_begin) (maxL := 2) (ret := none) (by decide) rfl (Nat.le_of_ble_eq_true rfl) ?_
  intro p_ e_ s_ m_ args_ below_ meth_ c_
  refine v_eq (pc' := 0) (st' := []) rfl rfl ?_
  refine v_loc [0] [(0, .ref (G b))] rfl ?_
  refine v_iconst (nI 0) dX6_begin_0 (by decide +kernel) ?_
  refine v_istore_n [(1, .int (nI 0)), (0, .ref (G b))] dX6_begin_1 rfl (by decide) rfl ?_
  refine v_loc [0, 1] [(1, .int (nI 0)), (0, .ref (G b))] rfl ?_
  refine u_loop1 (fun n (k : Nat) => k + n = 358) (fun (k : Nat) => mk7 σ b f0 (zeroF f1 0 k) f2 f3 f4 f5 f6) (fun (k : Nat) => [(1, .int (nI k)), (0, .ref (G b))]) (358) 0 (rfl) ?_
  intro n k hI ih
  refine v_iload_n 0 dX6_begin_2 rfl rfl ?_
  refine v_sipush (nI 358) dX6_begin_3 (by decide +kernel) ?_
  refine v_icmp_geN 22 (by omega) (by omega) dX6_begin_6 rfl (fun h6 => ?_) (fun h6 => ?_)
  · skip
    refine v_aload_n 1 dX6_begin_22 rfl rfl ?_
    refine u_getr (k := 1) (C := RX6) (T := TX6) (NF := 13) hM.n hM.s rfl rfl inX6_begin_X6 (by decide) (by decide +kernel) rfl dX6_begin_23 ?_
    refine v_bipush (nI 6) dX6_begin_26 (by decide +kernel) ?_
    refine v_bipush (nI 30) dX6_begin_28 (by decide +kernel) ?_
    refine m_st1 6 hM (rfl) (by omega) dX6_begin_30 ?_
    generalize hg1 : upd (zeroF f1 0 k) 6 (nI 30) = g1
    refine v_aload_n 1 dX6_begin_31 rfl rfl ?_
    refine u_getr (k := 1) (C := RX6) (T := TX6) (NF := 13) hM.n hM.s rfl rfl inX6_begin_X6 (by decide) (by decide +kernel) rfl dX6_begin_32 ?_
    refine v_bipush (nI 7) dX6_begin_35 (by decide +kernel) ?_
    refine v_iconst (nI 5) dX6_begin_37 (by decide +kernel) ?_
    refine m_st1 7 hM (rfl) (by omega) dX6_begin_38 ?_
    generalize hg2 : upd g1 7 (nI 5) = g2
    refine v_aload_n 1 dX6_begin_39 rfl rfl ?_
    refine u_getr (k := 1) (C := RX6) (T := TX6) (NF := 13) hM.n hM.s rfl rfl inX6_begin_X6 (by decide) (by decide +kernel) rfl dX6_begin_40 ?_
    refine v_bipush (nI 8) dX6_begin_43 (by decide +kernel) ?_
    refine v_iconst (nI 2) dX6_begin_45 (by decide +kernel) ?_
    refine m_st1 8 hM (rfl) (by omega) dX6_begin_46 ?_
    generalize hg3 : upd g2 8 (nI 2) = g3
    refine v_aload_n 1 dX6_begin_47 rfl rfl ?_
    refine u_getr (k := 1) (C := RX6) (T := TX6) (NF := 13) hM.n hM.s rfl rfl inX6_begin_X6 (by decide) (by decide +kernel) rfl dX6_begin_48 ?_
    refine v_bipush (nI 9) dX6_begin_51 (by decide +kernel) ?_
    refine v_iconst (nI 2) dX6_begin_53 (by decide +kernel) ?_
    refine m_st1 9 hM (rfl) (by omega) dX6_begin_54 ?_
    generalize hg4 : upd g3 9 (nI 2) = g4
    refine v_aload_n 1 dX6_begin_55 rfl rfl ?_
    refine v_iconst (nI 0) dX6_begin_56 (by decide +kernel) ?_
    refine m_puti (k := 5) (ty := .int) hM rfl inX6_begin_X6 (by decide) (by decide +kernel) rfl rfl (by decide +kernel) ⟨rfl, rfl⟩ dX6_begin_57 ?_
    generalize hg5 : upd f0 5 (nI 0) = g5
    refine v_aload_n 1 dX6_begin_60 rfl rfl ?_
    refine u_getr (k := 7) (C := RX6) (T := TX6) (NF := 13) hM.n hM.s rfl rfl inX6_begin_X6 (by decide) (by decide +kernel) rfl dX6_begin_61 ?_
    refine v_iconst (nI 0) dX6_begin_64 (by decide +kernel) ?_
    refine v_iconst (nI 0) dX6_begin_65 (by decide +kernel) ?_
    refine m_st5 0 hM (rfl) (by omega) rfl dX6_begin_66 ?_
    generalize hg6 : upd f5 0 (nI 0) = g6
    refine v_aload_n 1 dX6_begin_67 rfl rfl ?_
    refine u_getr (k := 7) (C := RX6) (T := TX6) (NF := 13) hM.n hM.s rfl rfl inX6_begin_X6 (by decide) (by decide +kernel) rfl dX6_begin_68 ?_
    refine v_iconst (nI 1) dX6_begin_71 (by decide +kernel) ?_
    refine v_iconst (nI 0) dX6_begin_72 (by decide +kernel) ?_
    refine m_st5 1 hM (rfl) (by omega) rfl dX6_begin_73 ?_
    generalize hg7 : upd g6 1 (nI 0) = g7
    refine v_vret rfl dX6_begin_74 ⟨rfl, congrArg (φ shp) ?_⟩
    · obtain rfl : k = 358 := (by omega); subst hg1; subst hg2; subst hg3; subst hg4; subst hg5; subst hg6; subst hg7; congr 1; funext i; exact beginF_eq f1 i
  · skip
    refine v_aload_n 1 dX6_begin_9 rfl rfl ?_
    refine u_getr (k := 1) (C := RX6) (T := TX6) (NF := 13) hM.n hM.s rfl rfl inX6_begin_X6 (by decide) (by decide +kernel) rfl dX6_begin_10 ?_
    refine v_iload_n 0 dX6_begin_13 rfl rfl ?_
    refine v_iconst (nI 0) dX6_begin_14 (by decide +kernel) ?_
    refine m_st1 k hM (rfl) (by omega) dX6_begin_15 ?_
    generalize hg8 : upd (zeroF f1 0 k) k (nI 0) = g8
    have ez : g8 = zeroF f1 0 (k + 1) := by rw [← hg8, ← zeroF_s, Nat.zero_add]; rfl
    rw [ez]
    refine v_iincN 0 [(1, .int (nI (k + 1))), (0, .ref (G b))] dX6_begin_16 rfl (by decide) rfl ?_
    refine v_goto 2 dX6_begin_19 rfl ?_
    refine v_loc [0, 1] [(1, .int (nI (k + 1))), (0, .ref (G b))] rfl ?_
    exact ih _ (k + 1) (show n - 1 < n by omega) (by omega)

set_option maxRecDepth 100000 in
theorem inX6_isLine_X6 : ∀ w ∈ wsX60, w ∈ wsX6_isLine := by decide +kernel
set_option maxHeartbeats 4000000 in
set_option maxRecDepth 100000 in
/-- isLine -/
theorem c_X6_isLine (lu : Launch) (Dg : va_G) (E : Nat → ClassId) (N : Nat) (G : Nat → Nat) (shp : Nat → (Nat → Int32) → va_E) (σ : Nat → Nat → Int32) {b : Nat} (hM : ModS E G shp N b) (f0 f1 f2 f3 f4 f5 f6 : Nat → Int32) {m : Nat} (hm : f1 1 = nI m) (hm2 : m < 2 ^ 31) (x : Int32)  : CS lu yX6_isLine wsX6_isLine { frames := 1, cells := 0, slots := 0, locals := 22 } Dg E N G shp (mk7 σ b f0 f1 f2 f3 f4 f5 f6) [.ref (G b), .int x] (some (.int (bi (Rg m x)))) (mk7 σ b f0 f1 f2 f3 f4 f5 f6) := by
  refine CS.of (cc := cX6_isLine) (maxL := 2) (ret := (some .boolean)) (by decide) rfl (Nat.le_of_ble_eq_true rfl) ?_
  intro p_ e_ s_ m_ args_ below_ meth_ c_
  refine v_eq (pc' := 0) (st' := []) rfl rfl ?_
  refine v_loc [0, 1] [(0, .ref (G b)), (1, .int x)] rfl ?_
  refine v_iload_n 1 dX6_isLine_0 rfl rfl ?_
  refine v_iconst (nI 0) dX6_isLine_1 (by decide +kernel) ?_
  refine v_aload_n 0 dX6_isLine_2 rfl rfl ?_
  refine u_getr (k := 1) (C := RX6) (T := TX6) (NF := 13) hM.n hM.s rfl rfl inX6_isLine_X6 (by decide) (by decide +kernel) rfl dX6_isLine_3 ?_
  refine v_iconst (nI 1) dX6_isLine_6 (by decide +kernel) ?_
  refine m_ld1 1 hM (rfl) (by omega) dX6_isLine_7 ?_
  refine v_topi (nI m) (hm) ?_
  refine v_iconst (nI 1) dX6_isLine_8 (by decide +kernel) ?_
  refine v_isub dX6_isLine_9 ?_
  refine u_callSv [.int x, .int (nI 0), .int ((nI m) - (nI 1))] [] 3 (c_X6_in lu Dg E N G shp (mk7 σ b f0 f1 f2 f3 f4 f5 f6) (x) (nI 0) ((nI m) - (nI 1))) gX6_isLine_X6_in rfl rfl rfl (by decide +kernel) rfl ⟨Nat.le_of_ble_eq_true rfl, Nat.le_of_ble_eq_true rfl⟩ ⟨Nat.le_of_ble_eq_true rfl, Nat.le_of_ble_eq_true rfl⟩ (Nat.le_of_ble_eq_true rfl) rfl dX6_isLine_10 ?_
  refine v_zret rfl (bi_01 _) dX6_isLine_13 ⟨congrArg (fun z => some (Value.int z)) ?_, congrArg (φ shp) ?_⟩
  · exact bi_c (Rg_iff (by omega) x)
  · rfl

set_option maxRecDepth 100000 in
theorem inX6_isPerson_X6 : ∀ w ∈ wsX60, w ∈ wsX6_isPerson := by decide +kernel
set_option maxHeartbeats 4000000 in
set_option maxRecDepth 100000 in
/-- isPerson -/
theorem c_X6_isPerson (lu : Launch) (Dg : va_G) (E : Nat → ClassId) (N : Nat) (G : Nat → Nat) (shp : Nat → (Nat → Int32) → va_E) (σ : Nat → Nat → Int32) {b : Nat} (hM : ModS E G shp N b) (f0 f1 f2 f3 f4 f5 f6 : Nat → Int32) {m : Nat} (hm : f1 2 = nI m) (hm2 : m < 2 ^ 31) (x : Int32)  : CS lu yX6_isPerson wsX6_isPerson { frames := 1, cells := 0, slots := 0, locals := 22 } Dg E N G shp (mk7 σ b f0 f1 f2 f3 f4 f5 f6) [.ref (G b), .int x] (some (.int (bi (Rg m x)))) (mk7 σ b f0 f1 f2 f3 f4 f5 f6) := by
  refine CS.of (cc := cX6_isPerson) (maxL := 2) (ret := (some .boolean)) (by decide) rfl (Nat.le_of_ble_eq_true rfl) ?_
  intro p_ e_ s_ m_ args_ below_ meth_ c_
  refine v_eq (pc' := 0) (st' := []) rfl rfl ?_
  refine v_loc [0, 1] [(0, .ref (G b)), (1, .int x)] rfl ?_
  refine v_iload_n 1 dX6_isPerson_0 rfl rfl ?_
  refine v_iconst (nI 0) dX6_isPerson_1 (by decide +kernel) ?_
  refine v_aload_n 0 dX6_isPerson_2 rfl rfl ?_
  refine u_getr (k := 1) (C := RX6) (T := TX6) (NF := 13) hM.n hM.s rfl rfl inX6_isPerson_X6 (by decide) (by decide +kernel) rfl dX6_isPerson_3 ?_
  refine v_iconst (nI 2) dX6_isPerson_6 (by decide +kernel) ?_
  refine m_ld1 2 hM (rfl) (by omega) dX6_isPerson_7 ?_
  refine v_topi (nI m) (hm) ?_
  refine v_iconst (nI 1) dX6_isPerson_8 (by decide +kernel) ?_
  refine v_isub dX6_isPerson_9 ?_
  refine u_callSv [.int x, .int (nI 0), .int ((nI m) - (nI 1))] [] 3 (c_X6_in lu Dg E N G shp (mk7 σ b f0 f1 f2 f3 f4 f5 f6) (x) (nI 0) ((nI m) - (nI 1))) gX6_isPerson_X6_in rfl rfl rfl (by decide +kernel) rfl ⟨Nat.le_of_ble_eq_true rfl, Nat.le_of_ble_eq_true rfl⟩ ⟨Nat.le_of_ble_eq_true rfl, Nat.le_of_ble_eq_true rfl⟩ (Nat.le_of_ble_eq_true rfl) rfl dX6_isPerson_10 ?_
  refine v_zret rfl (bi_01 _) dX6_isPerson_13 ⟨congrArg (fun z => some (Value.int z)) ?_, congrArg (φ shp) ?_⟩
  · exact bi_c (Rg_iff (by omega) x)
  · rfl

set_option maxRecDepth 100000 in
theorem inX6_isStanding_X6 : ∀ w ∈ wsX60, w ∈ wsX6_isStanding := by decide +kernel
set_option maxHeartbeats 4000000 in
set_option maxRecDepth 100000 in
/-- isStanding -/
theorem c_X6_isStanding (lu : Launch) (Dg : va_G) (E : Nat → ClassId) (N : Nat) (G : Nat → Nat) (shp : Nat → (Nat → Int32) → va_E) (σ : Nat → Nat → Int32) {b : Nat} (hM : ModS E G shp N b) (f0 f1 f2 f3 f4 f5 f6 : Nat → Int32) (p : Nat) (hp : p < 30)  : CS lu yX6_isStanding wsX6_isStanding { frames := 1, cells := 0, slots := 0, locals := 21 } Dg E N G shp (mk7 σ b f0 f1 f2 f3 f4 f5 f6) [.ref (G b), .int (nI p)] (some (.int (bi (f1 (58 + 10 * p + 5) = 0)))) (mk7 σ b f0 f1 f2 f3 f4 f5 f6) := by
  refine CS.of (cc := cX6_isStanding) (maxL := 2) (ret := (some .boolean)) (by decide) rfl (Nat.le_of_ble_eq_true rfl) ?_
  intro p_ e_ s_ m_ args_ below_ meth_ c_
  refine v_eq (pc' := 0) (st' := []) rfl rfl ?_
  refine v_loc [0, 1] [(0, .ref (G b)), (1, .int (nI p))] rfl ?_
  refine v_aload_n 0 dX6_isStanding_0 rfl rfl ?_
  refine u_getr (k := 1) (C := RX6) (T := TX6) (NF := 13) hM.n hM.s rfl rfl inX6_isStanding_X6 (by decide) (by decide +kernel) rfl dX6_isStanding_1 ?_
  refine v_iload_n 1 dX6_isStanding_4 rfl rfl ?_
  refine v_iconst (nI 5) dX6_isStanding_5 (by decide +kernel) ?_
  refine u_callSv [.int (nI p), .int (nI 5)] [.ref (G (b + 1))] 2 (c_X6_of lu Dg E N G shp (mk7 σ b f0 f1 f2 f3 f4 f5 f6) p 5) gX6_isStanding_X6_of rfl rfl rfl (by decide +kernel) rfl ⟨Nat.le_of_ble_eq_true rfl, Nat.le_of_ble_eq_true rfl⟩ ⟨Nat.le_of_ble_eq_true rfl, Nat.le_of_ble_eq_true rfl⟩ (Nat.le_of_ble_eq_true rfl) rfl dX6_isStanding_6 ?_
  refine m_ld1 (58 + 10 * p + 5) hM (rfl) (by omega) dX6_isStanding_9 ?_
  refine v_if_ne 17 dX6_isStanding_10 rfl (fun h10 => ?_) (fun h10 => ?_)
  · skip
    refine v_iconst (nI 0) dX6_isStanding_17 (by decide +kernel) ?_
    refine v_zret rfl (by decide +kernel) dX6_isStanding_18 ⟨congrArg (fun z => some (Value.int z)) ?_, congrArg (φ shp) ?_⟩
    · exact bi_nf h10
    · rfl
  · skip
    refine v_iconst (nI 1) dX6_isStanding_13 (by decide +kernel) ?_
    refine v_goto 18 dX6_isStanding_14 rfl ?_
    refine v_zret rfl (by decide +kernel) dX6_isStanding_18 ⟨congrArg (fun z => some (Value.int z)) ?_, congrArg (φ shp) ?_⟩
    · exact bi_nt (by first | exact h10 | exact Classical.byContradiction h10)
    · rfl
