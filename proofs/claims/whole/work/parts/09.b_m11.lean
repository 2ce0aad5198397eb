theorem nar_b (x : Int32) : vp_nar .byte x.toInt8.toInt32 = x.toInt8.toInt32 := by
  show x.toInt8.toInt32.toInt8.toInt32 = x.toInt8.toInt32
  rw [Int8.toInt8_toInt32]
set_option maxHeartbeats 4000000 in
set_option maxRecDepth 100000 in
/-- append_1 -/
theorem c_X6_append_1 (lu : Launch) (Dg : va_G) (E : Nat → ClassId) (N : Nat) (G : Nat → Nat) (shp : Nat → (Nat → Int32) → va_E) (σ : Nat → Nat → Int32) {b : Nat} (hM : ModS E G shp N b) (f0 f1 f2 f3 f4 f5 f6 : Nat → Int32)  (x : Int32) (hx : ¬ Rg 256 x)  : CS lu yX6_append wsX6_append { frames := 1, cells := 0, slots := 0, locals := 22 } Dg E N G shp (mk7 σ b f0 f1 f2 f3 f4 f5 f6) [.ref (G b), .int x] (some (.int (nI 0))) (mk7 σ b (upd f0 0 (nI 1)) f1 f2 f3 f4 f5 f6) := by
  refine CS.of (cc := cX6_append) (maxL := 2) (ret := (some .int)) (by decide) rfl (Nat.le_of_ble_eq_true rfl) ?_
  intro p_ e_ s_ m_ args_ below_ meth_ c_
  refine v_eq (pc' := 0) (st' := []) rfl rfl ?_
  refine v_loc [0, 1] [(0, .ref (G b)), (1, .int x)] rfl ?_
  refine v_aload_n 0 dX6_append_0 rfl rfl ?_
  refine v_iload_n 1 dX6_append_1 rfl rfl ?_
  refine v_iconst (nI 0) dX6_append_2 (by decide +kernel) ?_
  refine v_sipush (nI 255) dX6_append_3 (by decide +kernel) ?_
  refine u_callSv [.int x, .int (nI 0), .int (nI 255)] [.ref (G b)] 3 (c_X6_in lu Dg E N G shp (mk7 σ b f0 f1 f2 f3 f4 f5 f6) (x) (nI 0) (nI 255)) gX6_append_X6_in rfl rfl rfl (by decide +kernel) rfl ⟨Nat.le_of_ble_eq_true rfl, Nat.le_of_ble_eq_true rfl⟩ ⟨Nat.le_of_ble_eq_true rfl, Nat.le_of_ble_eq_true rfl⟩ (Nat.le_of_ble_eq_true rfl) rfl dX6_append_6 ?_
  refine v_if_neB 16 dX6_append_9 rfl (fun h9 => ?_) (fun h9 => ?_)
  · skip
    exact absurd ((Rg_le (n := 255) (by omega) x).mp h9) hx
  · skip
    refine v_iconst (nI 1) dX6_append_12 (by decide +kernel) ?_
    refine v_goto 30 dX6_append_13 rfl ?_
    refine u_callVv [.int (nI 1)] [] 1 (c_X6_holds lu Dg E N G shp σ hM f0 f1 f2 f3 f4 f5 f6 1 (by omega)) (ci := 6) (C := RX6) (T := TX6) (NF := 13) hM.n hM.s rfl gX6_append_X6_holds rfl rfl rfl (by decide +kernel) rfl ⟨Nat.le_of_ble_eq_true rfl, Nat.le_of_ble_eq_true rfl⟩ ⟨Nat.le_of_ble_eq_true rfl, Nat.le_of_ble_eq_true rfl⟩ (Nat.le_of_ble_eq_true rfl) rfl dX6_append_30 ?_
    refine v_if_neB 38 dX6_append_33 rfl (fun h33 => ?_) (fun h33 => ?_)
    · skip
      exact absurd h33 (by decide)
    · skip
      refine v_iconst (nI 0) dX6_append_36 (by decide +kernel) ?_
      refine v_iret rfl dX6_append_37 ⟨congrArg (fun z => some (Value.int z)) ?_, congrArg (φ shp) ?_⟩
      · rfl
      · rfl

set_option maxRecDepth 100000 in
theorem inX6_append_X6 : ∀ w ∈ wsX60, w ∈ wsX6_append := by decide +kernel
set_option maxHeartbeats 4000000 in
set_option maxRecDepth 100000 in
/-- append_2 -/
theorem c_X6_append_2 (lu : Launch) (Dg : va_G) (E : Nat → ClassId) (N : Nat) (G : Nat → Nat) (shp : Nat → (Nat → Int32) → va_E) (σ : Nat → Nat → Int32) {b : Nat} (hM : ModS E G shp N b) (f0 f1 f2 f3 f4 f5 f6 : Nat → Int32)  {c : Nat} (hc : c < 256) (hl : f0 9 = nI 100)  : CS lu yX6_append wsX6_append { frames := 1, cells := 0, slots := 0, locals := 22 } Dg E N G shp (mk7 σ b f0 f1 f2 f3 f4 f5 f6) [.ref (G b), .int (nI c)] (some (.int (nI 0))) (mk7 σ b (upd f0 0 (nI 2)) f1 f2 f3 f4 f5 f6) := by
  refine CS.of (cc := cX6_append) (maxL := 2) (ret := (some .int)) (by decide) rfl (Nat.le_of_ble_eq_true rfl) ?_
  intro p_ e_ s_ m_ args_ below_ meth_ c_
  refine v_eq (pc' := 0) (st' := []) rfl rfl ?_
  refine v_loc [0, 1] [(0, .ref (G b)), (1, .int (nI c))] rfl ?_
  refine v_aload_n 0 dX6_append_0 rfl rfl ?_
  refine v_iload_n 1 dX6_append_1 rfl rfl ?_
  refine v_iconst (nI 0) dX6_append_2 (by decide +kernel) ?_
  refine v_sipush (nI 255) dX6_append_3 (by decide +kernel) ?_
  refine u_callSv [.int (nI c), .int (nI 0), .int (nI 255)] [.ref (G b)] 3 (c_X6_in lu Dg E N G shp (mk7 σ b f0 f1 f2 f3 f4 f5 f6) (nI c) (nI 0) (nI 255)) gX6_append_X6_in rfl rfl rfl (by decide +kernel) rfl ⟨Nat.le_of_ble_eq_true rfl, Nat.le_of_ble_eq_true rfl⟩ ⟨Nat.le_of_ble_eq_true rfl, Nat.le_of_ble_eq_true rfl⟩ (Nat.le_of_ble_eq_true rfl) rfl dX6_append_6 ?_
  refine v_if_neB 16 dX6_append_9 rfl (fun h9 => ?_) (fun h9 => ?_)
  · skip
    refine v_aload_n 0 dX6_append_16 rfl rfl ?_
    refine m_geti (k := 9) hM rfl inX6_append_X6 (by decide) (by decide +kernel) rfl dX6_append_17 ?_
    refine v_topi (nI 100) (hl) ?_
    refine v_bipush (nI 100) dX6_append_20 (by decide +kernel) ?_
    refine v_icmp_neN 29 (by omega) (by omega) dX6_append_22 rfl (fun h22 => ?_) (fun h22 => ?_)
    · skip
      omega
    · skip
      refine v_iconst (nI 2) dX6_append_25 (by decide +kernel) ?_
      refine v_goto 30 dX6_append_26 rfl ?_
      refine u_callVv [.int (nI 2)] [] 1 (c_X6_holds lu Dg E N G shp σ hM f0 f1 f2 f3 f4 f5 f6 2 (by omega)) (ci := 6) (C := RX6) (T := TX6) (NF := 13) hM.n hM.s rfl gX6_append_X6_holds rfl rfl rfl (by decide +kernel) rfl ⟨Nat.le_of_ble_eq_true rfl, Nat.le_of_ble_eq_true rfl⟩ ⟨Nat.le_of_ble_eq_true rfl, Nat.le_of_ble_eq_true rfl⟩ (Nat.le_of_ble_eq_true rfl) rfl dX6_append_30 ?_
      refine v_if_neB 38 dX6_append_33 rfl (fun h33 => ?_) (fun h33 => ?_)
      · skip
        exact absurd h33 (by decide)
      · skip
        refine v_iconst (nI 0) dX6_append_36 (by decide +kernel) ?_
        refine v_iret rfl dX6_append_37 ⟨congrArg (fun z => some (Value.int z)) ?_, congrArg (φ shp) ?_⟩
        · rfl
        · rfl
  · skip
    exact absurd ((Rg_le (n := 255) (by omega) (nI c)).mpr ⟨c, hc, rfl⟩) h9

set_option maxHeartbeats 4000000 in
set_option maxRecDepth 100000 in
/-- append_0 -/
theorem c_X6_append_0 (lu : Launch) (Dg : va_G) (E : Nat → ClassId) (N : Nat) (G : Nat → Nat) (shp : Nat → (Nat → Int32) → va_E) (σ : Nat → Nat → Int32) {b : Nat} (hM : ModS E G shp N b) (f0 f1 f2 f3 f4 f5 f6 : Nat → Int32)  {c len : Nat} (hc : c < 256) (hl : f0 9 = nI len) (hlt : len < 100)  : CS lu yX6_append wsX6_append { frames := 1, cells := 0, slots := 0, locals := 22 } Dg E N G shp (mk7 σ b f0 f1 f2 f3 f4 f5 f6) [.ref (G b), .int (nI c)] (some (.int (nI (len + 1)))) (mk7 σ b (upd (upd f0 0 (nI 0)) 9 (nI (len + 1))) f1 f2 f3 f4 f5 (upd f6 len (nI c).toInt8.toInt32)) := by
  refine CS.of (cc := cX6_append) (maxL := 2) (ret := (some .int)) (by decide) rfl (Nat.le_of_ble_eq_true rfl) ?_
  intro p_ e_ s_ m_ args_ below_ meth_ c_
  refine v_eq (pc' := 0) (st' := []) rfl rfl ?_
  refine v_loc [0, 1] [(0, .ref (G b)), (1, .int (nI c))] rfl ?_
  refine v_aload_n 0 dX6_append_0 rfl rfl ?_
  refine v_iload_n 1 dX6_append_1 rfl rfl ?_
  refine v_iconst (nI 0) dX6_append_2 (by decide +kernel) ?_
  refine v_sipush (nI 255) dX6_append_3 (by decide +kernel) ?_
  refine u_callSv [.int (nI c), .int (nI 0), .int (nI 255)] [.ref (G b)] 3 (c_X6_in lu Dg E N G shp (mk7 σ b f0 f1 f2 f3 f4 f5 f6) (nI c) (nI 0) (nI 255)) gX6_append_X6_in rfl rfl rfl (by decide +kernel) rfl ⟨Nat.le_of_ble_eq_true rfl, Nat.le_of_ble_eq_true rfl⟩ ⟨Nat.le_of_ble_eq_true rfl, Nat.le_of_ble_eq_true rfl⟩ (Nat.le_of_ble_eq_true rfl) rfl dX6_append_6 ?_
  refine v_if_neB 16 dX6_append_9 rfl (fun h9 => ?_) (fun h9 => ?_)
  · skip
    refine v_aload_n 0 dX6_append_16 rfl rfl ?_
    refine m_geti (k := 9) hM rfl inX6_append_X6 (by decide) (by decide +kernel) rfl dX6_append_17 ?_
    refine v_topi (nI len) (hl) ?_
    refine v_bipush (nI 100) dX6_append_20 (by decide +kernel) ?_
    refine v_icmp_neN 29 (by omega) (by omega) dX6_append_22 rfl (fun h22 => ?_) (fun h22 => ?_)
    · skip
      refine v_iconst (nI 0) dX6_append_29 (by decide +kernel) ?_
      refine u_callVv [.int (nI 0)] [] 1 (c_X6_holds lu Dg E N G shp σ hM f0 f1 f2 f3 f4 f5 f6 0 (by omega)) (ci := 6) (C := RX6) (T := TX6) (NF := 13) hM.n hM.s rfl gX6_append_X6_holds rfl rfl rfl (by decide +kernel) rfl ⟨Nat.le_of_ble_eq_true rfl, Nat.le_of_ble_eq_true rfl⟩ ⟨Nat.le_of_ble_eq_true rfl, Nat.le_of_ble_eq_true rfl⟩ (Nat.le_of_ble_eq_true rfl) rfl dX6_append_30 ?_
      refine v_if_neB 38 dX6_append_33 rfl (fun h33 => ?_) (fun h33 => ?_)
      · skip
        refine v_aload_n 0 dX6_append_38 rfl rfl ?_
        refine u_getr (k := 8) (C := RX6) (T := TX6) (NF := 13) hM.n hM.s rfl rfl inX6_append_X6 (by decide) (by decide +kernel) rfl dX6_append_39 ?_
        refine v_aload_n 0 dX6_append_42 rfl rfl ?_
        refine m_geti (k := 9) hM rfl inX6_append_X6 (by decide) (by decide +kernel) rfl dX6_append_43 ?_
        refine v_topi (nI len) ((by rw [upd_ap, if_neg (by omega)]; exact hl)) ?_
        refine v_iload_n 1 dX6_append_46 rfl rfl ?_
        refine v_i2b dX6_append_47 ?_
        refine m_st6 len hM (rfl) (by omega) (nar_b _) dX6_append_48 ?_
        generalize hg1 : upd f6 len ((nI c).toInt8.toInt32) = g1
        refine v_aload_n 0 dX6_append_49 rfl rfl ?_
        refine v_dup dX6_append_50 rfl ?_
        refine m_geti (k := 9) hM rfl inX6_append_X6 (by decide) (by decide +kernel) rfl dX6_append_51 ?_
        refine v_topi (nI len) ((by rw [upd_ap, if_neg (by omega)]; exact hl)) ?_
        refine v_iconst (nI 1) dX6_append_54 (by decide +kernel) ?_
        refine v_iaddN dX6_append_55 ?_
        refine m_puti (k := 9) (ty := .int) hM rfl inX6_append_X6 (by decide) (by decide +kernel) rfl rfl (by decide +kernel) ⟨rfl, rfl⟩ dX6_append_56 ?_
        generalize hg2 : upd (upd f0 0 (nI 0)) 9 (nI (len + 1)) = g2
        refine v_aload_n 0 dX6_append_59 rfl rfl ?_
        refine m_geti (k := 9) hM rfl inX6_append_X6 (by decide) (by decide +kernel) rfl dX6_append_60 ?_
        refine v_topi (nI (len + 1)) ((by subst_vars; rw [upd_ap, if_pos rfl])) ?_
        refine v_iret rfl dX6_append_63 ⟨congrArg (fun z => some (Value.int z)) ?_, congrArg (φ shp) ?_⟩
        · rfl
        · subst hg1; subst hg2; rfl
      · skip
        exact absurd rfl h33
    · skip
      omega
  · skip
    exact absurd ((Rg_le (n := 255) (by omega) (nI c)).mpr ⟨c, hc, rfl⟩) h9

set_option maxRecDepth 100000 in
theorem inX6_clearText_X6 : ∀ w ∈ wsX60, w ∈ wsX6_clearText := by decide +kernel
set_option maxHeartbeats 4000000 in
set_option maxRecDepth 100000 in
/-- clearText -/
theorem c_X6_clearText (lu : Launch) (Dg : va_G) (E : Nat → ClassId) (N : Nat) (G : Nat → Nat) (shp : Nat → (Nat → Int32) → va_E) (σ : Nat → Nat → Int32) {b : Nat} (hM : ModS E G shp N b) (f0 f1 f2 f3 f4 f5 f6 : Nat → Int32)    : CS lu yX6_clearText wsX6_clearText { frames := 0, cells := 0, slots := 0, locals := 0 } Dg E N G shp (mk7 σ b f0 f1 f2 f3 f4 f5 f6) [.ref (G b)] (some (.int (f0 9))) (mk7 σ b (upd (upd f0 0 (nI 0)) 9 (nI 0)) f1 f2 f3 f4 f5 f6) := by
  refine CS.of (cc := cX6_clearText) (maxL := 2) (ret := (some .int)) (by decide) rfl (Nat.le_of_ble_eq_true rfl) ?_
  intro p_ e_ s_ m_ args_ below_ meth_ c_
  refine v_eq (pc' := 0) (st' := []) rfl rfl ?_
  refine v_loc [0] [(0, .ref (G b))] rfl ?_
  refine v_aload_n 0 dX6_clearText_0 rfl rfl ?_
  refine v_iconst (nI 0) dX6_clearText_1 (by decide +kernel) ?_
  refine m_puti (k := 0) (ty := .int) hM rfl inX6_clearText_X6 (by decide) (by decide +kernel) rfl rfl (by decide +kernel) ⟨rfl, rfl⟩ dX6_clearText_2 ?_
  generalize hg1 : upd f0 0 (nI 0) = g1
  refine v_aload_n 0 dX6_clearText_5 rfl rfl ?_
  refine m_geti (k := 9) hM rfl inX6_clearText_X6 (by decide) (by decide +kernel) rfl dX6_clearText_6 ?_
  refine v_topi (f0 9) ((by subst_vars; rw [upd_ap, if_neg (by omega)])) ?_
  refine v_istore_n [(1, .int (f0 9)), (0, .ref (G b))] dX6_clearText_9 rfl (by decide) rfl ?_
  refine v_aload_n 1 dX6_clearText_10 rfl rfl ?_
  refine v_iconst (nI 0) dX6_clearText_11 (by decide +kernel) ?_
  refine m_puti (k := 9) (ty := .int) hM rfl inX6_clearText_X6 (by decide) (by decide +kernel) rfl rfl (by decide +kernel) ⟨rfl, rfl⟩ dX6_clearText_12 ?_
  generalize hg2 : upd g1 9 (nI 0) = g2
  refine v_iload_n 0 dX6_clearText_15 rfl rfl ?_
  refine v_iret rfl dX6_clearText_16 ⟨congrArg (fun z => some (Value.int z)) ?_, congrArg (φ shp) ?_⟩
  · rfl
  · subst hg1; subst hg2; rfl

set_option maxHeartbeats 4000000 in
set_option maxRecDepth 100000 in
/-- about_1 -/
theorem c_X6_about_1 (lu : Launch) (Dg : va_G) (E : Nat → ClassId) (N : Nat) (G : Nat → Nat) (shp : Nat → (Nat → Int32) → va_E) (σ : Nat → Nat → Int32) {b : Nat} (hM : ModS E G shp N b) (f0 f1 f2 f3 f4 f5 f6 : Nat → Int32)  (x : Int32) (hx : ¬ Rg 10 x)  : CS lu yX6_about wsX6_about { frames := 2, cells := 0, slots := 0, locals := 44 } Dg E N G shp (mk7 σ b f0 f1 f2 f3 f4 f5 f6) [.ref (G b), .int x] (some (.int (nI 0))) (mk7 σ b (upd f0 0 (nI 1)) f1 f2 f3 f4 f5 f6) := by
  refine CS.of (cc := cX6_about) (maxL := 2) (ret := (some .int)) (by decide) rfl (Nat.le_of_ble_eq_true rfl) ?_
  intro p_ e_ s_ m_ args_ below_ meth_ c_
  refine v_eq (pc' := 0) (st' := []) rfl rfl ?_
  refine v_loc [0, 1] [(0, .ref (G b)), (1, .int x)] rfl ?_
  refine v_aload_n 0 dX6_about_0 rfl rfl ?_
  refine v_iload_n 1 dX6_about_1 rfl rfl ?_
  refine v_iconst (nI 0) dX6_about_2 (by decide +kernel) ?_
  refine v_bipush (nI 9) dX6_about_3 (by decide +kernel) ?_
  refine u_callSv [.int x, .int (nI 0), .int (nI 9)] [.ref (G b)] 3 (c_X6_in lu Dg E N G shp (mk7 σ b f0 f1 f2 f3 f4 f5 f6) (x) (nI 0) (nI 9)) gX6_about_X6_in rfl rfl rfl (by decide +kernel) rfl ⟨Nat.le_of_ble_eq_true rfl, Nat.le_of_ble_eq_true rfl⟩ ⟨Nat.le_of_ble_eq_true rfl, Nat.le_of_ble_eq_true rfl⟩ (Nat.le_of_ble_eq_true rfl) rfl dX6_about_5 ?_
  refine v_if_eqB 15 dX6_about_8 rfl (fun h8 => ?_) (fun h8 => ?_)
  · skip
    refine v_iconst (nI 1) dX6_about_15 (by decide +kernel) ?_
    refine u_callVv [.int (nI 1)] [] 1 (c_X6_holds lu Dg E N G shp σ hM f0 f1 f2 f3 f4 f5 f6 1 (by omega)) (ci := 6) (C := RX6) (T := TX6) (NF := 13) hM.n hM.s rfl gX6_about_X6_holds rfl rfl rfl (by decide +kernel) rfl ⟨Nat.le_of_ble_eq_true rfl, Nat.le_of_ble_eq_true rfl⟩ ⟨Nat.le_of_ble_eq_true rfl, Nat.le_of_ble_eq_true rfl⟩ (Nat.le_of_ble_eq_true rfl) rfl dX6_about_16 ?_
    refine v_if_neB 24 dX6_about_19 rfl (fun h19 => ?_) (fun h19 => ?_)
    · skip
      exact absurd h19 (by decide)
    · skip
      refine v_iconst (nI 0) dX6_about_22 (by decide +kernel) ?_
      refine v_iret rfl dX6_about_23 ⟨congrArg (fun z => some (Value.int z)) ?_, congrArg (φ shp) ?_⟩
      · rfl
      · rfl
  · skip
    exact absurd ((Rg_le (n := 9) (by omega) x).mp h8) hx

set_option maxRecDepth 100000 in
theorem inX6_about_X6 : ∀ w ∈ wsX60, w ∈ wsX6_about := by decide +kernel
set_option maxHeartbeats 4000000 in
set_option maxRecDepth 100000 in
/-- about_0_0 -/
theorem c_X6_about_0_0 (lu : Launch) (Dg : va_G) (E : Nat → ClassId) (N : Nat) (G : Nat → Nat) (shp : Nat → (Nat → Int32) → va_E) (σ : Nat → Nat → Int32) {b : Nat} (hM : ModS E G shp N b) (f0 f1 f2 f3 f4 f5 f6 : Nat → Int32) {T : Nat} (hI : Inv T f1)  : CS lu yX6_about wsX6_about { frames := 2, cells := 0, slots := 0, locals := 44 } Dg E N G shp (mk7 σ b f0 f1 f2 f3 f4 f5 f6) [.ref (G b), .int (nI 0)] (some (.int (f1 0))) (mk7 σ b (upd f0 0 (nI 0)) f1 f2 f3 f4 f5 f6) := by
  refine CS.of (cc := cX6_about) (maxL := 2) (ret := (some .int)) (by decide) rfl (Nat.le_of_ble_eq_true rfl) ?_
  intro p_ e_ s_ m_ args_ below_ meth_ c_
  refine v_eq (pc' := 0) (st' := []) rfl rfl ?_
  refine v_loc [0, 1] [(0, .ref (G b)), (1, .int (nI 0))] rfl ?_
  refine v_aload_n 0 dX6_about_0 rfl rfl ?_
  refine v_iload_n 1 dX6_about_1 rfl rfl ?_
  refine v_iconst (nI 0) dX6_about_2 (by decide +kernel) ?_
  refine v_bipush (nI 9) dX6_about_3 (by decide +kernel) ?_
  refine u_callSv [.int (nI 0), .int (nI 0), .int (nI 9)] [.ref (G b)] 3 (c_X6_in lu Dg E N G shp (mk7 σ b f0 f1 f2 f3 f4 f5 f6) (nI 0) (nI 0) (nI 9)) gX6_about_X6_in rfl rfl rfl (by decide +kernel) rfl ⟨Nat.le_of_ble_eq_true rfl, Nat.le_of_ble_eq_true rfl⟩ ⟨Nat.le_of_ble_eq_true rfl, Nat.le_of_ble_eq_true rfl⟩ (Nat.le_of_ble_eq_true rfl) rfl dX6_about_5 ?_
  refine v_if_eqB 15 dX6_about_8 rfl (fun h8 => ?_) (fun h8 => ?_)
  · skip
    exact absurd (by decide +kernel) h8
  · skip
    refine v_iconst (nI 0) dX6_about_11 (by decide +kernel) ?_
    refine v_goto 16 dX6_about_12 rfl ?_
    refine u_callVv [.int (nI 0)] [] 1 (c_X6_holds lu Dg E N G shp σ hM f0 f1 f2 f3 f4 f5 f6 0 (by omega)) (ci := 6) (C := RX6) (T := TX6) (NF := 13) hM.n hM.s rfl gX6_about_X6_holds rfl rfl rfl (by decide +kernel) rfl ⟨Nat.le_of_ble_eq_true rfl, Nat.le_of_ble_eq_true rfl⟩ ⟨Nat.le_of_ble_eq_true rfl, Nat.le_of_ble_eq_true rfl⟩ (Nat.le_of_ble_eq_true rfl) rfl dX6_about_16 ?_
    refine v_if_neB 24 dX6_about_19 rfl (fun h19 => ?_) (fun h19 => ?_)
    · skip
      refine v_iload_n 1 dX6_about_24 rfl rfl ?_
      refine v_tableIn (off := 51) 76 dX6_about_25 (by decide +kernel) (by decide +kernel) (by decide +kernel) rfl ?_
      refine v_aload_n 0 dX6_about_76 rfl rfl ?_
      refine u_getr (k := 1) (C := RX6) (T := TX6) (NF := 13) hM.n hM.s rfl rfl inX6_about_X6 (by decide) (by decide +kernel) rfl dX6_about_77 ?_
      refine v_iload_n 1 dX6_about_80 rfl rfl ?_
      refine m_ld1 0 hM (rfl) (by omega) dX6_about_81 ?_
      refine v_iret rfl dX6_about_82 ⟨congrArg (fun z => some (Value.int z)) ?_, congrArg (φ shp) ?_⟩
      · rfl
      · rfl
    · skip
      exact absurd rfl h19

set_option maxHeartbeats 4000000 in
set_option maxRecDepth 100000 in
/-- about_0_1 -/
theorem c_X6_about_0_1 (lu : Launch) (Dg : va_G) (E : Nat → ClassId) (N : Nat) (G : Nat → Nat) (shp : Nat → (Nat → Int32) → va_E) (σ : Nat → Nat → Int32) {b : Nat} (hM : ModS E G shp N b) (f0 f1 f2 f3 f4 f5 f6 : Nat → Int32) {T : Nat} (hI : Inv T f1)  : CS lu yX6_about wsX6_about { frames := 2, cells := 0, slots := 0, locals := 44 } Dg E N G shp (mk7 σ b f0 f1 f2 f3 f4 f5 f6) [.ref (G b), .int (nI 1)] (some (.int (f1 1))) (mk7 σ b (upd f0 0 (nI 0)) f1 f2 f3 f4 f5 f6) := by
  refine CS.of (cc := cX6_about) (maxL := 2) (ret := (some .int)) (by decide) rfl (Nat.le_of_ble_eq_true rfl) ?_
  intro p_ e_ s_ m_ args_ below_ meth_ c_
  refine v_eq (pc' := 0) (st' := []) rfl rfl ?_
  refine v_loc [0, 1] [(0, .ref (G b)), (1, .int (nI 1))] rfl ?_
  refine v_aload_n 0 dX6_about_0 rfl rfl ?_
  refine v_iload_n 1 dX6_about_1 rfl rfl ?_
  refine v_iconst (nI 0) dX6_about_2 (by decide +kernel) ?_
  refine v_bipush (nI 9) dX6_about_3 (by decide +kernel) ?_
  refine u_callSv [.int (nI 1), .int (nI 0), .int (nI 9)] [.ref (G b)] 3 (c_X6_in lu Dg E N G shp (mk7 σ b f0 f1 f2 f3 f4 f5 f6) (nI 1) (nI 0) (nI 9)) gX6_about_X6_in rfl rfl rfl (by decide +kernel) rfl ⟨Nat.le_of_ble_eq_true rfl, Nat.le_of_ble_eq_true rfl⟩ ⟨Nat.le_of_ble_eq_true rfl, Nat.le_of_ble_eq_true rfl⟩ (Nat.le_of_ble_eq_true rfl) rfl dX6_about_5 ?_
  refine v_if_eqB 15 dX6_about_8 rfl (fun h8 => ?_) (fun h8 => ?_)
  · skip
    exact absurd (by decide +kernel) h8
  · skip
    refine v_iconst (nI 0) dX6_about_11 (by decide +kernel) ?_
    refine v_goto 16 dX6_about_12 rfl ?_
    refine u_callVv [.int (nI 0)] [] 1 (c_X6_holds lu Dg E N G shp σ hM f0 f1 f2 f3 f4 f5 f6 0 (by omega)) (ci := 6) (C := RX6) (T := TX6) (NF := 13) hM.n hM.s rfl gX6_about_X6_holds rfl rfl rfl (by decide +kernel) rfl ⟨Nat.le_of_ble_eq_true rfl, Nat.le_of_ble_eq_true rfl⟩ ⟨Nat.le_of_ble_eq_true rfl, Nat.le_of_ble_eq_true rfl⟩ (Nat.le_of_ble_eq_true rfl) rfl dX6_about_16 ?_
    refine v_if_neB 24 dX6_about_19 rfl (fun h19 => ?_) (fun h19 => ?_)
    · skip
      refine v_iload_n 1 dX6_about_24 rfl rfl ?_
      refine v_tableIn (off := 51) 76 dX6_about_25 (by decide +kernel) (by decide +kernel) (by decide +kernel) rfl ?_
      refine v_aload_n 0 dX6_about_76 rfl rfl ?_
      refine u_getr (k := 1) (C := RX6) (T := TX6) (NF := 13) hM.n hM.s rfl rfl inX6_about_X6 (by decide) (by decide +kernel) rfl dX6_about_77 ?_
      refine v_iload_n 1 dX6_about_80 rfl rfl ?_
      refine m_ld1 1 hM (rfl) (by omega) dX6_about_81 ?_
      refine v_iret rfl dX6_about_82 ⟨congrArg (fun z => some (Value.int z)) ?_, congrArg (φ shp) ?_⟩
      · rfl
      · rfl
    · skip
      exact absurd rfl h19

set_option maxHeartbeats 4000000 in
set_option maxRecDepth 100000 in
/-- about_0_2 -/
theorem c_X6_about_0_2 (lu : Launch) (Dg : va_G) (E : Nat → ClassId) (N : Nat) (G : Nat → Nat) (shp : Nat → (Nat → Int32) → va_E) (σ : Nat → Nat → Int32) {b : Nat} (hM : ModS E G shp N b) (f0 f1 f2 f3 f4 f5 f6 : Nat → Int32) {T : Nat} (hI : Inv T f1)  : CS lu yX6_about wsX6_about { frames := 2, cells := 0, slots := 0, locals := 44 } Dg E N G shp (mk7 σ b f0 f1 f2 f3 f4 f5 f6) [.ref (G b), .int (nI 2)] (some (.int (f1 2))) (mk7 σ b (upd f0 0 (nI 0)) f1 f2 f3 f4 f5 f6) := by
  refine CS.of (cc := cX6_about) (maxL := 2) (ret := (some .int)) (by decide) rfl (Nat.le_of_ble_eq_true rfl) ?_
  intro p_ e_ s_ m_ args_ below_ meth_ c_
  refine v_eq (pc' := 0) (st' := []) rfl rfl ?_
  refine v_loc [0, 1] [(0, .ref (G b)), (1, .int (nI 2))] rfl ?_
  refine v_aload_n 0 dX6_about_0 rfl rfl ?_
  refine v_iload_n 1 dX6_about_1 rfl rfl ?_
  refine v_iconst (nI 0) dX6_about_2 (by decide +kernel) ?_
  refine v_bipush (nI 9) dX6_about_3 (by decide +kernel) ?_
  refine u_callSv [.int (nI 2), .int (nI 0), .int (nI 9)] [.ref (G b)] 3 (c_X6_in lu Dg E N G shp (mk7 σ b f0 f1 f2 f3 f4 f5 f6) (nI 2) (nI 0) (nI 9)) gX6_about_X6_in rfl rfl rfl (by decide +kernel) rfl ⟨Nat.le_of_ble_eq_true rfl, Nat.le_of_ble_eq_true rfl⟩ ⟨Nat.le_of_ble_eq_true rfl, Nat.le_of_ble_eq_true rfl⟩ (Nat.le_of_ble_eq_true rfl) rfl dX6_about_5 ?_
  refine v_if_eqB 15 dX6_about_8 rfl (fun h8 => ?_) (fun h8 => ?_)
  · skip
    exact absurd (by decide +kernel) h8
  · skip
    refine v_iconst (nI 0) dX6_about_11 (by decide +kernel) ?_
    refine v_goto 16 dX6_about_12 rfl ?_
    refine u_callVv [.int (nI 0)] [] 1 (c_X6_holds lu Dg E N G shp σ hM f0 f1 f2 f3 f4 f5 f6 0 (by omega)) (ci := 6) (C := RX6) (T := TX6) (NF := 13) hM.n hM.s rfl gX6_about_X6_holds rfl rfl rfl (by decide +kernel) rfl ⟨Nat.le_of_ble_eq_true rfl, Nat.le_of_ble_eq_true rfl⟩ ⟨Nat.le_of_ble_eq_true rfl, Nat.le_of_ble_eq_true rfl⟩ (Nat.le_of_ble_eq_true rfl) rfl dX6_about_16 ?_
    refine v_if_neB 24 dX6_about_19 rfl (fun h19 => ?_) (fun h19 => ?_)
    · skip
      refine v_iload_n 1 dX6_about_24 rfl rfl ?_
      refine v_tableIn (off := 51) 76 dX6_about_25 (by decide +kernel) (by decide +kernel) (by decide +kernel) rfl ?_
      refine v_aload_n 0 dX6_about_76 rfl rfl ?_
      refine u_getr (k := 1) (C := RX6) (T := TX6) (NF := 13) hM.n hM.s rfl rfl inX6_about_X6 (by decide) (by decide +kernel) rfl dX6_about_77 ?_
      refine v_iload_n 1 dX6_about_80 rfl rfl ?_
      refine m_ld1 2 hM (rfl) (by omega) dX6_about_81 ?_
      refine v_iret rfl dX6_about_82 ⟨congrArg (fun z => some (Value.int z)) ?_, congrArg (φ shp) ?_⟩
      · rfl
      · rfl
    · skip
      exact absurd rfl h19

set_option maxHeartbeats 4000000 in
set_option maxRecDepth 100000 in
/-- about_0_3 -/
theorem c_X6_about_0_3 (lu : Launch) (Dg : va_G) (E : Nat → ClassId) (N : Nat) (G : Nat → Nat) (shp : Nat → (Nat → Int32) → va_E) (σ : Nat → Nat → Int32) {b : Nat} (hM : ModS E G shp N b) (f0 f1 f2 f3 f4 f5 f6 : Nat → Int32) {T : Nat} (hI : Inv T f1)  : CS lu yX6_about wsX6_about { frames := 2, cells := 0, slots := 0, locals := 44 } Dg E N G shp (mk7 σ b f0 f1 f2 f3 f4 f5 f6) [.ref (G b), .int (nI 3)] (some (.int (nI (standN f1 (nI 0) (tn (f1 2)))))) (mk7 σ b (upd f0 0 (nI 0)) f1 f2 f3 f4 f5 f6) := by
  refine CS.of (cc := cX6_about) (maxL := 2) (ret := (some .int)) (by decide) rfl (Nat.le_of_ble_eq_true rfl) ?_
  intro p_ e_ s_ m_ args_ below_ meth_ c_
  refine v_eq (pc' := 0) (st' := []) rfl rfl ?_
  refine v_loc [0, 1] [(0, .ref (G b)), (1, .int (nI 3))] rfl ?_
  refine v_aload_n 0 dX6_about_0 rfl rfl ?_
  refine v_iload_n 1 dX6_about_1 rfl rfl ?_
  refine v_iconst (nI 0) dX6_about_2 (by decide +kernel) ?_
  refine v_bipush (nI 9) dX6_about_3 (by decide +kernel) ?_
  refine u_callSv [.int (nI 3), .int (nI 0), .int (nI 9)] [.ref (G b)] 3 (c_X6_in lu Dg E N G shp (mk7 σ b f0 f1 f2 f3 f4 f5 f6) (nI 3) (nI 0) (nI 9)) gX6_about_X6_in rfl rfl rfl (by decide +kernel) rfl ⟨Nat.le_of_ble_eq_true rfl, Nat.le_of_ble_eq_true rfl⟩ ⟨Nat.le_of_ble_eq_true rfl, Nat.le_of_ble_eq_true rfl⟩ (Nat.le_of_ble_eq_true rfl) rfl dX6_about_5 ?_
  refine v_if_eqB 15 dX6_about_8 rfl (fun h8 => ?_) (fun h8 => ?_)
  · skip
    exact absurd (by decide +kernel) h8
  · skip
    refine v_iconst (nI 0) dX6_about_11 (by decide +kernel) ?_
    refine v_goto 16 dX6_about_12 rfl ?_
    refine u_callVv [.int (nI 0)] [] 1 (c_X6_holds lu Dg E N G shp σ hM f0 f1 f2 f3 f4 f5 f6 0 (by omega)) (ci := 6) (C := RX6) (T := TX6) (NF := 13) hM.n hM.s rfl gX6_about_X6_holds rfl rfl rfl (by decide +kernel) rfl ⟨Nat.le_of_ble_eq_true rfl, Nat.le_of_ble_eq_true rfl⟩ ⟨Nat.le_of_ble_eq_true rfl, Nat.le_of_ble_eq_true rfl⟩ (Nat.le_of_ble_eq_true rfl) rfl dX6_about_16 ?_
    refine v_if_neB 24 dX6_about_19 rfl (fun h19 => ?_) (fun h19 => ?_)
    · skip
      refine v_iload_n 1 dX6_about_24 rfl rfl ?_
      refine v_tableIn (off := 58) 83 dX6_about_25 (by decide +kernel) (by decide +kernel) (by decide +kernel) rfl ?_
      refine v_aload_n 0 dX6_about_83 rfl rfl ?_
      refine v_iload_n 1 dX6_about_84 rfl rfl ?_
      refine v_iconst (nI 3) dX6_about_85 (by decide +kernel) ?_
      refine v_isubN (by omega) dX6_about_86 ?_
      refine v_topi (nI 0) (rfl) ?_
      refine u_callVv [.int (nI 0)] [] 1 (c_X6_standing lu Dg E N G shp σ hM (upd f0 0 (nI 0)) f1 f2 f3 f4 f5 f6 hI (nI 0)) (ci := 6) (C := RX6) (T := TX6) (NF := 13) hM.n hM.s rfl gX6_about_X6_standing rfl rfl rfl (by decide +kernel) rfl ⟨Nat.le_of_ble_eq_true rfl, Nat.le_of_ble_eq_true rfl⟩ ⟨Nat.le_of_ble_eq_true rfl, Nat.le_of_ble_eq_true rfl⟩ (Nat.le_of_ble_eq_true rfl) rfl dX6_about_87 ?_
      refine v_iret rfl dX6_about_90 ⟨congrArg (fun z => some (Value.int z)) ?_, congrArg (φ shp) ?_⟩
      · rfl
      · rfl
    · skip
      exact absurd rfl h19

set_option maxHeartbeats 4000000 in
set_option maxRecDepth 100000 in
/-- about_0_4 -/
theorem c_X6_about_0_4 (lu : Launch) (Dg : va_G) (E : Nat → ClassId) (N : Nat) (G : Nat → Nat) (shp : Nat → (Nat → Int32) → va_E) (σ : Nat → Nat → Int32) {b : Nat} (hM : ModS E G shp N b) (f0 f1 f2 f3 f4 f5 f6 : Nat → Int32) {T : Nat} (hI : Inv T f1)  : CS lu yX6_about wsX6_about { frames := 2, cells := 0, slots := 0, locals := 44 } Dg E N G shp (mk7 σ b f0 f1 f2 f3 f4 f5 f6) [.ref (G b), .int (nI 4)] (some (.int (nI (standN f1 (nI 1) (tn (f1 2)))))) (mk7 σ b (upd f0 0 (nI 0)) f1 f2 f3 f4 f5 f6) := by
  refine CS.of (cc := cX6_about) (maxL := 2) (ret := (some .int)) (by decide) rfl (Nat.le_of_ble_eq_true rfl) ?_
  intro p_ e_ s_ m_ args_ below_ meth_ c_
  refine v_eq (pc' := 0) (st' := []) rfl rfl ?_
  refine v_loc [0, 1] [(0, .ref (G b)), (1, .int (nI 4))] rfl ?_
  refine v_aload_n 0 dX6_about_0 rfl rfl ?_
  refine v_iload_n 1 dX6_about_1 rfl rfl ?_
  refine v_iconst (nI 0) dX6_about_2 (by decide +kernel) ?_
  refine v_bipush (nI 9) dX6_about_3 (by decide +kernel) ?_
  refine u_callSv [.int (nI 4), .int (nI 0), .int (nI 9)] [.ref (G b)] 3 (c_X6_in lu Dg E N G shp (mk7 σ b f0 f1 f2 f3 f4 f5 f6) (nI 4) (nI 0) (nI 9)) gX6_about_X6_in rfl rfl rfl (by decide +kernel) rfl ⟨Nat.le_of_ble_eq_true rfl, Nat.le_of_ble_eq_true rfl⟩ ⟨Nat.le_of_ble_eq_true rfl, Nat.le_of_ble_eq_true rfl⟩ (Nat.le_of_ble_eq_true rfl) rfl dX6_about_5 ?_
  refine v_if_eqB 15 dX6_about_8 rfl (fun h8 => ?_) (fun h8 => ?_)
  · skip
    exact absurd (by decide +kernel) h8
  · skip
    refine v_iconst (nI 0) dX6_about_11 (by decide +kernel) ?_
    refine v_goto 16 dX6_about_12 rfl ?_
    refine u_callVv [.int (nI 0)] [] 1 (c_X6_holds lu Dg E N G shp σ hM f0 f1 f2 f3 f4 f5 f6 0 (by omega)) (ci := 6) (C := RX6) (T := TX6) (NF := 13) hM.n hM.s rfl gX6_about_X6_holds rfl rfl rfl (by decide +kernel) rfl ⟨Nat.le_of_ble_eq_true rfl, Nat.le_of_ble_eq_true rfl⟩ ⟨Nat.le_of_ble_eq_true rfl, Nat.le_of_ble_eq_true rfl⟩ (Nat.le_of_ble_eq_true rfl) rfl dX6_about_16 ?_
    refine v_if_neB 24 dX6_about_19 rfl (fun h19 => ?_) (fun h19 => ?_)
    · skip
      refine v_iload_n 1 dX6_about_24 rfl rfl ?_
      refine v_tableIn (off := 58) 83 dX6_about_25 (by decide +kernel) (by decide +kernel) (by decide +kernel) rfl ?_
      refine v_aload_n 0 dX6_about_83 rfl rfl ?_
      refine v_iload_n 1 dX6_about_84 rfl rfl ?_
      refine v_iconst (nI 3) dX6_about_85 (by decide +kernel) ?_
      refine v_isubN (by omega) dX6_about_86 ?_
      refine v_topi (nI 1) (rfl) ?_
      refine u_callVv [.int (nI 1)] [] 1 (c_X6_standing lu Dg E N G shp σ hM (upd f0 0 (nI 0)) f1 f2 f3 f4 f5 f6 hI (nI 1)) (ci := 6) (C := RX6) (T := TX6) (NF := 13) hM.n hM.s rfl gX6_about_X6_standing rfl rfl rfl (by decide +kernel) rfl ⟨Nat.le_of_ble_eq_true rfl, Nat.le_of_ble_eq_true rfl⟩ ⟨Nat.le_of_ble_eq_true rfl, Nat.le_of_ble_eq_true rfl⟩ (Nat.le_of_ble_eq_true rfl) rfl dX6_about_87 ?_
      refine v_iret rfl dX6_about_90 ⟨congrArg (fun z => some (Value.int z)) ?_, congrArg (φ shp) ?_⟩
      · rfl
      · rfl
    · skip
      exact absurd rfl h19

set_option maxHeartbeats 4000000 in
set_option maxRecDepth 100000 in
/-- about_0_5 -/
theorem c_X6_about_0_5 (lu : Launch) (Dg : va_G) (E : Nat → ClassId) (N : Nat) (G : Nat → Nat) (shp : Nat → (Nat → Int32) → va_E) (σ : Nat → Nat → Int32) {b : Nat} (hM : ModS E G shp N b) (f0 f1 f2 f3 f4 f5 f6 : Nat → Int32) {T : Nat} (hI : Inv T f1)  : CS lu yX6_about wsX6_about { frames := 2, cells := 0, slots := 0, locals := 44 } Dg E N G shp (mk7 σ b f0 f1 f2 f3 f4 f5 f6) [.ref (G b), .int (nI 5)] (some (.int (nI (standN f1 (nI 2) (tn (f1 2)))))) (mk7 σ b (upd f0 0 (nI 0)) f1 f2 f3 f4 f5 f6) := by
  refine CS.of (cc := cX6_about) (maxL := 2) (ret := (some .int)) (by decide) rfl (Nat.le_of_ble_eq_true rfl) ?_
  intro p_ e_ s_ m_ args_ below_ meth_ c_
  refine v_eq (pc' := 0) (st' := []) rfl rfl ?_
  refine v_loc [0, 1] [(0, .ref (G b)), (1, .int (nI 5))] rfl ?_
  refine v_aload_n 0 dX6_about_0 rfl rfl ?_
  refine v_iload_n 1 dX6_about_1 rfl rfl ?_
  refine v_iconst (nI 0) dX6_about_2 (by decide +kernel) ?_
  refine v_bipush (nI 9) dX6_about_3 (by decide +kernel) ?_
  refine u_callSv [.int (nI 5), .int (nI 0), .int (nI 9)] [.ref (G b)] 3 (c_X6_in lu Dg E N G shp (mk7 σ b f0 f1 f2 f3 f4 f5 f6) (nI 5) (nI 0) (nI 9)) gX6_about_X6_in rfl rfl rfl (by decide +kernel) rfl ⟨Nat.le_of_ble_eq_true rfl, Nat.le_of_ble_eq_true rfl⟩ ⟨Nat.le_of_ble_eq_true rfl, Nat.le_of_ble_eq_true rfl⟩ (Nat.le_of_ble_eq_true rfl) rfl dX6_about_5 ?_
  refine v_if_eqB 15 dX6_about_8 rfl (fun h8 => ?_) (fun h8 => ?_)
  · skip
    exact absurd (by decide +kernel) h8
  · skip
    refine v_iconst (nI 0) dX6_about_11 (by decide +kernel) ?_
    refine v_goto 16 dX6_about_12 rfl ?_
    refine u_callVv [.int (nI 0)] [] 1 (c_X6_holds lu Dg E N G shp σ hM f0 f1 f2 f3 f4 f5 f6 0 (by omega)) (ci := 6) (C := RX6) (T := TX6) (NF := 13) hM.n hM.s rfl gX6_about_X6_holds rfl rfl rfl (by decide +kernel) rfl ⟨Nat.le_of_ble_eq_true rfl, Nat.le_of_ble_eq_true rfl⟩ ⟨Nat.le_of_ble_eq_true rfl, Nat.le_of_ble_eq_true rfl⟩ (Nat.le_of_ble_eq_true rfl) rfl dX6_about_16 ?_
    refine v_if_neB 24 dX6_about_19 rfl (fun h19 => ?_) (fun h19 => ?_)
    · skip
      refine v_iload_n 1 dX6_about_24 rfl rfl ?_
      refine v_tableIn (off := 58) 83 dX6_about_25 (by decide +kernel) (by decide +kernel) (by decide +kernel) rfl ?_
      refine v_aload_n 0 dX6_about_83 rfl rfl ?_
      refine v_iload_n 1 dX6_about_84 rfl rfl ?_
      refine v_iconst (nI 3) dX6_about_85 (by decide +kernel) ?_
      refine v_isubN (by omega) dX6_about_86 ?_
      refine v_topi (nI 2) (rfl) ?_
      refine u_callVv [.int (nI 2)] [] 1 (c_X6_standing lu Dg E N G shp σ hM (upd f0 0 (nI 0)) f1 f2 f3 f4 f5 f6 hI (nI 2)) (ci := 6) (C := RX6) (T := TX6) (NF := 13) hM.n hM.s rfl gX6_about_X6_standing rfl rfl rfl (by decide +kernel) rfl ⟨Nat.le_of_ble_eq_true rfl, Nat.le_of_ble_eq_true rfl⟩ ⟨Nat.le_of_ble_eq_true rfl, Nat.le_of_ble_eq_true rfl⟩ (Nat.le_of_ble_eq_true rfl) rfl dX6_about_87 ?_
      refine v_iret rfl dX6_about_90 ⟨congrArg (fun z => some (Value.int z)) ?_, congrArg (φ shp) ?_⟩
      · rfl
      · rfl
    · skip
      exact absurd rfl h19

set_option maxHeartbeats 4000000 in
set_option maxRecDepth 100000 in
/-- about_0_6 -/
theorem c_X6_about_0_6 (lu : Launch) (Dg : va_G) (E : Nat → ClassId) (N : Nat) (G : Nat → Nat) (shp : Nat → (Nat → Int32) → va_E) (σ : Nat → Nat → Int32) {b : Nat} (hM : ModS E G shp N b) (f0 f1 f2 f3 f4 f5 f6 : Nat → Int32) {T : Nat} (hI : Inv T f1)  : CS lu yX6_about wsX6_about { frames := 2, cells := 0, slots := 0, locals := 44 } Dg E N G shp (mk7 σ b f0 f1 f2 f3 f4 f5 f6) [.ref (G b), .int (nI 6)] (some (.int (f1 3))) (mk7 σ b (upd f0 0 (nI 0)) f1 f2 f3 f4 f5 f6) := by
  refine CS.of (cc := cX6_about) (maxL := 2) (ret := (some .int)) (by decide) rfl (Nat.le_of_ble_eq_true rfl) ?_
  intro p_ e_ s_ m_ args_ below_ meth_ c_
  refine v_eq (pc' := 0) (st' := []) rfl rfl ?_
  refine v_loc [0, 1] [(0, .ref (G b)), (1, .int (nI 6))] rfl ?_
  refine v_aload_n 0 dX6_about_0 rfl rfl ?_
  refine v_iload_n 1 dX6_about_1 rfl rfl ?_
  refine v_iconst (nI 0) dX6_about_2 (by decide +kernel) ?_
  refine v_bipush (nI 9) dX6_about_3 (by decide +kernel) ?_
  refine u_callSv [.int (nI 6), .int (nI 0), .int (nI 9)] [.ref (G b)] 3 (c_X6_in lu Dg E N G shp (mk7 σ b f0 f1 f2 f3 f4 f5 f6) (nI 6) (nI 0) (nI 9)) gX6_about_X6_in rfl rfl rfl (by decide +kernel) rfl ⟨Nat.le_of_ble_eq_true rfl, Nat.le_of_ble_eq_true rfl⟩ ⟨Nat.le_of_ble_eq_true rfl, Nat.le_of_ble_eq_true rfl⟩ (Nat.le_of_ble_eq_true rfl) rfl dX6_about_5 ?_
  refine v_if_eqB 15 dX6_about_8 rfl (fun h8 => ?_) (fun h8 => ?_)
  · skip
    exact absurd (by decide +kernel) h8
  · skip
    refine v_iconst (nI 0) dX6_about_11 (by decide +kernel) ?_
    refine v_goto 16 dX6_about_12 rfl ?_
    refine u_callVv [.int (nI 0)] [] 1 (c_X6_holds lu Dg E N G shp σ hM f0 f1 f2 f3 f4 f5 f6 0 (by omega)) (ci := 6) (C := RX6) (T := TX6) (NF := 13) hM.n hM.s rfl gX6_about_X6_holds rfl rfl rfl (by decide +kernel) rfl ⟨Nat.le_of_ble_eq_true rfl, Nat.le_of_ble_eq_true rfl⟩ ⟨Nat.le_of_ble_eq_true rfl, Nat.le_of_ble_eq_true rfl⟩ (Nat.le_of_ble_eq_true rfl) rfl dX6_about_16 ?_
    refine v_if_neB 24 dX6_about_19 rfl (fun h19 => ?_) (fun h19 => ?_)
    · skip
      refine v_iload_n 1 dX6_about_24 rfl rfl ?_
      refine v_tableIn (off := 66) 91 dX6_about_25 (by decide +kernel) (by decide +kernel) (by decide +kernel) rfl ?_
      refine v_aload_n 0 dX6_about_91 rfl rfl ?_
      refine u_getr (k := 1) (C := RX6) (T := TX6) (NF := 13) hM.n hM.s rfl rfl inX6_about_X6 (by decide) (by decide +kernel) rfl dX6_about_92 ?_
      refine v_iload_n 1 dX6_about_95 rfl rfl ?_
      refine v_iconst (nI 3) dX6_about_96 (by decide +kernel) ?_
      refine v_isubN (by omega) dX6_about_97 ?_
      refine v_topi (nI 3) (rfl) ?_
      refine m_ld1 3 hM (rfl) (by omega) dX6_about_98 ?_
      refine v_iret rfl dX6_about_99 ⟨congrArg (fun z => some (Value.int z)) ?_, congrArg (φ shp) ?_⟩
      · rfl
      · rfl
    · skip
      exact absurd rfl h19

set_option maxHeartbeats 4000000 in
set_option maxRecDepth 100000 in
/-- about_0_7 -/
theorem c_X6_about_0_7 (lu : Launch) (Dg : va_G) (E : Nat → ClassId) (N : Nat) (G : Nat → Nat) (shp : Nat → (Nat → Int32) → va_E) (σ : Nat → Nat → Int32) {b : Nat} (hM : ModS E G shp N b) (f0 f1 f2 f3 f4 f5 f6 : Nat → Int32) {T : Nat} (hI : Inv T f1)  : CS lu yX6_about wsX6_about { frames := 2, cells := 0, slots := 0, locals := 44 } Dg E N G shp (mk7 σ b f0 f1 f2 f3 f4 f5 f6) [.ref (G b), .int (nI 7)] (some (.int (f1 4))) (mk7 σ b (upd f0 0 (nI 0)) f1 f2 f3 f4 f5 f6) := by
  refine CS.of (cc := cX6_about) (maxL := 2) (ret := (some .int)) (by decide) rfl (Nat.le_of_ble_eq_true rfl) ?_
  intro p_ e_ s_ m_ args_ below_ meth_ c_
  refine v_eq (pc' := 0) (st' := []) rfl rfl ?_
  refine v_loc [0, 1] [(0, .ref (G b)), (1, .int (nI 7))] rfl ?_
  refine v_aload_n 0 dX6_about_0 rfl rfl ?_
  refine v_iload_n 1 dX6_about_1 rfl rfl ?_
  refine v_iconst (nI 0) dX6_about_2 (by decide +kernel) ?_
  refine v_bipush (nI 9) dX6_about_3 (by decide +kernel) ?_
  refine u_callSv [.int (nI 7), .int (nI 0), .int (nI 9)] [.ref (G b)] 3 (c_X6_in lu Dg E N G shp (mk7 σ b f0 f1 f2 f3 f4 f5 f6) (nI 7) (nI 0) (nI 9)) gX6_about_X6_in rfl rfl rfl (by decide +kernel) rfl ⟨Nat.le_of_ble_eq_true rfl, Nat.le_of_ble_eq_true rfl⟩ ⟨Nat.le_of_ble_eq_true rfl, Nat.le_of_ble_eq_true rfl⟩ (Nat.le_of_ble_eq_true rfl) rfl dX6_about_5 ?_
  refine v_if_eqB 15 dX6_about_8 rfl (fun h8 => ?_) (fun h8 => ?_)
  · skip
    exact absurd (by decide +kernel) h8
  · skip
    refine v_iconst (nI 0) dX6_about_11 (by decide +kernel) ?_
    refine v_goto 16 dX6_about_12 rfl ?_
    refine u_callVv [.int (nI 0)] [] 1 (c_X6_holds lu Dg E N G shp σ hM f0 f1 f2 f3 f4 f5 f6 0 (by omega)) (ci := 6) (C := RX6) (T := TX6) (NF := 13) hM.n hM.s rfl gX6_about_X6_holds rfl rfl rfl (by decide +kernel) rfl ⟨Nat.le_of_ble_eq_true rfl, Nat.le_of_ble_eq_true rfl⟩ ⟨Nat.le_of_ble_eq_true rfl, Nat.le_of_ble_eq_true rfl⟩ (Nat.le_of_ble_eq_true rfl) rfl dX6_about_16 ?_
    refine v_if_neB 24 dX6_about_19 rfl (fun h19 => ?_) (fun h19 => ?_)
    · skip
      refine v_iload_n 1 dX6_about_24 rfl rfl ?_
      refine v_tableIn (off := 66) 91 dX6_about_25 (by decide +kernel) (by decide +kernel) (by decide +kernel) rfl ?_
      refine v_aload_n 0 dX6_about_91 rfl rfl ?_
      refine u_getr (k := 1) (C := RX6) (T := TX6) (NF := 13) hM.n hM.s rfl rfl inX6_about_X6 (by decide) (by decide +kernel) rfl dX6_about_92 ?_
      refine v_iload_n 1 dX6_about_95 rfl rfl ?_
      refine v_iconst (nI 3) dX6_about_96 (by decide +kernel) ?_
      refine v_isubN (by omega) dX6_about_97 ?_
      refine v_topi (nI 4) (rfl) ?_
      refine m_ld1 4 hM (rfl) (by omega) dX6_about_98 ?_
      refine v_iret rfl dX6_about_99 ⟨congrArg (fun z => some (Value.int z)) ?_, congrArg (φ shp) ?_⟩
      · rfl
      · rfl
    · skip
      exact absurd rfl h19

set_option maxHeartbeats 4000000 in
set_option maxRecDepth 100000 in
/-- about_0_8 -/
theorem c_X6_about_0_8 (lu : Launch) (Dg : va_G) (E : Nat → ClassId) (N : Nat) (G : Nat → Nat) (shp : Nat → (Nat → Int32) → va_E) (σ : Nat → Nat → Int32) {b : Nat} (hM : ModS E G shp N b) (f0 f1 f2 f3 f4 f5 f6 : Nat → Int32) {T : Nat} (hI : Inv T f1)  : CS lu yX6_about wsX6_about { frames := 2, cells := 0, slots := 0, locals := 44 } Dg E N G shp (mk7 σ b f0 f1 f2 f3 f4 f5 f6) [.ref (G b), .int (nI 8)] (some (.int (f1 5))) (mk7 σ b (upd f0 0 (nI 0)) f1 f2 f3 f4 f5 f6) := by
  refine CS.of (cc := cX6_about) (maxL := 2) (ret := (some .int)) (by decide) rfl (Nat.le_of_ble_eq_true rfl) ?_
  intro p_ e_ s_ m_ args_ below_ meth_ c_
  refine v_eq (pc' := 0) (st' := []) rfl rfl ?_
  refine v_loc [0, 1] [(0, .ref (G b)), (1, .int (nI 8))] rfl ?_
  refine v_aload_n 0 dX6_about_0 rfl rfl ?_
  refine v_iload_n 1 dX6_about_1 rfl rfl ?_
  refine v_iconst (nI 0) dX6_about_2 (by decide +kernel) ?_
  refine v_bipush (nI 9) dX6_about_3 (by decide +kernel) ?_
  refine u_callSv [.int (nI 8), .int (nI 0), .int (nI 9)] [.ref (G b)] 3 (c_X6_in lu Dg E N G shp (mk7 σ b f0 f1 f2 f3 f4 f5 f6) (nI 8) (nI 0) (nI 9)) gX6_about_X6_in rfl rfl rfl (by decide +kernel) rfl ⟨Nat.le_of_ble_eq_true rfl, Nat.le_of_ble_eq_true rfl⟩ ⟨Nat.le_of_ble_eq_true rfl, Nat.le_of_ble_eq_true rfl⟩ (Nat.le_of_ble_eq_true rfl) rfl dX6_about_5 ?_
  refine v_if_eqB 15 dX6_about_8 rfl (fun h8 => ?_) (fun h8 => ?_)
  · skip
    exact absurd (by decide +kernel) h8
  · skip
    refine v_iconst (nI 0) dX6_about_11 (by decide +kernel) ?_
    refine v_goto 16 dX6_about_12 rfl ?_
    refine u_callVv [.int (nI 0)] [] 1 (c_X6_holds lu Dg E N G shp σ hM f0 f1 f2 f3 f4 f5 f6 0 (by omega)) (ci := 6) (C := RX6) (T := TX6) (NF := 13) hM.n hM.s rfl gX6_about_X6_holds rfl rfl rfl (by decide +kernel) rfl ⟨Nat.le_of_ble_eq_true rfl, Nat.le_of_ble_eq_true rfl⟩ ⟨Nat.le_of_ble_eq_true rfl, Nat.le_of_ble_eq_true rfl⟩ (Nat.le_of_ble_eq_true rfl) rfl dX6_about_16 ?_
    refine v_if_neB 24 dX6_about_19 rfl (fun h19 => ?_) (fun h19 => ?_)
    · skip
      refine v_iload_n 1 dX6_about_24 rfl rfl ?_
      refine v_tableIn (off := 66) 91 dX6_about_25 (by decide +kernel) (by decide +kernel) (by decide +kernel) rfl ?_
      refine v_aload_n 0 dX6_about_91 rfl rfl ?_
      refine u_getr (k := 1) (C := RX6) (T := TX6) (NF := 13) hM.n hM.s rfl rfl inX6_about_X6 (by decide) (by decide +kernel) rfl dX6_about_92 ?_
      refine v_iload_n 1 dX6_about_95 rfl rfl ?_
      refine v_iconst (nI 3) dX6_about_96 (by decide +kernel) ?_
      refine v_isubN (by omega) dX6_about_97 ?_
      refine v_topi (nI 5) (rfl) ?_
      refine m_ld1 5 hM (rfl) (by omega) dX6_about_98 ?_
      refine v_iret rfl dX6_about_99 ⟨congrArg (fun z => some (Value.int z)) ?_, congrArg (φ shp) ?_⟩
      · rfl
      · rfl
    · skip
      exact absurd rfl h19

set_option maxHeartbeats 4000000 in
set_option maxRecDepth 100000 in
/-- about_0_9 -/
theorem c_X6_about_0_9 (lu : Launch) (Dg : va_G) (E : Nat → ClassId) (N : Nat) (G : Nat → Nat) (shp : Nat → (Nat → Int32) → va_E) (σ : Nat → Nat → Int32) {b : Nat} (hM : ModS E G shp N b) (f0 f1 f2 f3 f4 f5 f6 : Nat → Int32) {T : Nat} (hI : Inv T f1)  : CS lu yX6_about wsX6_about { frames := 2, cells := 0, slots := 0, locals := 44 } Dg E N G shp (mk7 σ b f0 f1 f2 f3 f4 f5 f6) [.ref (G b), .int (nI 9)] (some (.int (accN f1 (tn (f1 2))))) (mk7 σ b (upd f0 0 (nI 0)) f1 f2 f3 f4 f5 f6) := by
  refine CS.of (cc := cX6_about) (maxL := 2) (ret := (some .int)) (by decide) rfl (Nat.le_of_ble_eq_true rfl) ?_
  intro p_ e_ s_ m_ args_ below_ meth_ c_
  refine v_eq (pc' := 0) (st' := []) rfl rfl ?_
  refine v_loc [0, 1] [(0, .ref (G b)), (1, .int (nI 9))] rfl ?_
  refine v_aload_n 0 dX6_about_0 rfl rfl ?_
  refine v_iload_n 1 dX6_about_1 rfl rfl ?_
  refine v_iconst (nI 0) dX6_about_2 (by decide +kernel) ?_
  refine v_bipush (nI 9) dX6_about_3 (by decide +kernel) ?_
  refine u_callSv [.int (nI 9), .int (nI 0), .int (nI 9)] [.ref (G b)] 3 (c_X6_in lu Dg E N G shp (mk7 σ b f0 f1 f2 f3 f4 f5 f6) (nI 9) (nI 0) (nI 9)) gX6_about_X6_in rfl rfl rfl (by decide +kernel) rfl ⟨Nat.le_of_ble_eq_true rfl, Nat.le_of_ble_eq_true rfl⟩ ⟨Nat.le_of_ble_eq_true rfl, Nat.le_of_ble_eq_true rfl⟩ (Nat.le_of_ble_eq_true rfl) rfl dX6_about_5 ?_
  refine v_if_eqB 15 dX6_about_8 rfl (fun h8 => ?_) (fun h8 => ?_)
  · skip
    exact absurd (by decide +kernel) h8
  · skip
    refine v_iconst (nI 0) dX6_about_11 (by decide +kernel) ?_
    refine v_goto 16 dX6_about_12 rfl ?_
    refine u_callVv [.int (nI 0)] [] 1 (c_X6_holds lu Dg E N G shp σ hM f0 f1 f2 f3 f4 f5 f6 0 (by omega)) (ci := 6) (C := RX6) (T := TX6) (NF := 13) hM.n hM.s rfl gX6_about_X6_holds rfl rfl rfl (by decide +kernel) rfl ⟨Nat.le_of_ble_eq_true rfl, Nat.le_of_ble_eq_true rfl⟩ ⟨Nat.le_of_ble_eq_true rfl, Nat.le_of_ble_eq_true rfl⟩ (Nat.le_of_ble_eq_true rfl) rfl dX6_about_16 ?_
    refine v_if_neB 24 dX6_about_19 rfl (fun h19 => ?_) (fun h19 => ?_)
    · skip
      refine v_iload_n 1 dX6_about_24 rfl rfl ?_
      refine v_tableOut 100 dX6_about_25 (by decide +kernel) rfl ?_
      refine v_aload_n 0 dX6_about_100 rfl rfl ?_
      refine u_callVv [] [] 0 (c_X6_accounts lu Dg E N G shp σ hM (upd f0 0 (nI 0)) f1 f2 f3 f4 f5 f6 hI) (ci := 6) (C := RX6) (T := TX6) (NF := 13) hM.n hM.s rfl gX6_about_X6_accounts rfl rfl rfl (by decide +kernel) rfl ⟨Nat.le_of_ble_eq_true rfl, Nat.le_of_ble_eq_true rfl⟩ ⟨Nat.le_of_ble_eq_true rfl, Nat.le_of_ble_eq_true rfl⟩ (Nat.le_of_ble_eq_true rfl) rfl dX6_about_101 ?_
      refine v_iret rfl dX6_about_104 ⟨congrArg (fun z => some (Value.int z)) ?_, congrArg (φ shp) ?_⟩
      · rfl
      · rfl
    · skip
      exact absurd rfl h19

set_option maxHeartbeats 4000000 in
set_option maxRecDepth 100000 in
/-- line_1 -/
theorem c_X6_line_1 (lu : Launch) (Dg : va_G) (E : Nat → ClassId) (N : Nat) (G : Nat → Nat) (shp : Nat → (Nat → Int32) → va_E) (σ : Nat → Nat → Int32) {b : Nat} (hM : ModS E G shp N b) (f0 f1 f2 f3 f4 f5 f6 : Nat → Int32) {T : Nat} (hI : Inv T f1) (x y : Int32) (hx : ¬ Rg (tn (f1 1)) x)  : CS lu yX6_line wsX6_line { frames := 2, cells := 0, slots := 0, locals := 44 } Dg E N G shp (mk7 σ b f0 f1 f2 f3 f4 f5 f6) [.ref (G b), .int x, .int y] (some (.int (nI 0))) (mk7 σ b (upd f0 0 (nI 1)) f1 f2 f3 f4 f5 f6) := by
  refine CS.of (cc := cX6_line) (maxL := 3) (ret := (some .int)) (by decide) rfl (Nat.le_of_ble_eq_true rfl) ?_
  intro p_ e_ s_ m_ args_ below_ meth_ c_
  refine v_eq (pc' := 0) (st' := []) rfl rfl ?_
  refine v_loc [0, 1, 2] [(0, .ref (G b)), (1, .int x), (2, .int y)] rfl ?_
  refine v_aload_n 0 dX6_line_0 rfl rfl ?_
  refine v_aload_n 0 dX6_line_1 rfl rfl ?_
  refine v_iload_n 1 dX6_line_2 rfl rfl ?_
  refine u_callVv [.int x] [.ref (G b)] 1 (c_X6_isLine lu Dg E N G shp σ hM f0 f1 f2 f3 f4 f5 f6 hI.nl (by have := hI.nl3; omega) (x)) (ci := 6) (C := RX6) (T := TX6) (NF := 13) hM.n hM.s rfl gX6_line_X6_isLine rfl rfl rfl (by decide +kernel) rfl ⟨Nat.le_of_ble_eq_true rfl, Nat.le_of_ble_eq_true rfl⟩ ⟨Nat.le_of_ble_eq_true rfl, Nat.le_of_ble_eq_true rfl⟩ (Nat.le_of_ble_eq_true rfl) rfl dX6_line_3 ?_
  refine v_if_neB 13 dX6_line_6 rfl (fun h6 => ?_) (fun h6 => ?_)
  · skip
    exact absurd h6 hx
  · skip
    refine v_iconst (nI 1) dX6_line_9 (by decide +kernel) ?_
    refine v_goto 27 dX6_line_10 rfl ?_
    refine u_callVv [.int (nI 1)] [] 1 (c_X6_holds lu Dg E N G shp σ hM f0 f1 f2 f3 f4 f5 f6 1 (by omega)) (ci := 6) (C := RX6) (T := TX6) (NF := 13) hM.n hM.s rfl gX6_line_X6_holds rfl rfl rfl (by decide +kernel) rfl ⟨Nat.le_of_ble_eq_true rfl, Nat.le_of_ble_eq_true rfl⟩ ⟨Nat.le_of_ble_eq_true rfl, Nat.le_of_ble_eq_true rfl⟩ (Nat.le_of_ble_eq_true rfl) rfl dX6_line_27 ?_
    refine v_if_neB 35 dX6_line_30 rfl (fun h30 => ?_) (fun h30 => ?_)
    · skip
      exact absurd h30 (by decide)
    · skip
      refine v_iconst (nI 0) dX6_line_33 (by decide +kernel) ?_
      refine v_iret rfl dX6_line_34 ⟨congrArg (fun z => some (Value.int z)) ?_, congrArg (φ shp) ?_⟩
      · rfl
      · rfl

set_option maxHeartbeats 4000000 in
set_option maxRecDepth 100000 in
/-- line_2 -/
theorem c_X6_line_2 (lu : Launch) (Dg : va_G) (E : Nat → ClassId) (N : Nat) (G : Nat → Nat) (shp : Nat → (Nat → Int32) → va_E) (σ : Nat → Nat → Int32) {b : Nat} (hM : ModS E G shp N b) (f0 f1 f2 f3 f4 f5 f6 : Nat → Int32) {T : Nat} (hI : Inv T f1) {l : Nat} (hl : l < tn (f1 1)) (y : Int32) (hy : ¬ Rg 5 y)  : CS lu yX6_line wsX6_line { frames := 2, cells := 0, slots := 0, locals := 44 } Dg E N G shp (mk7 σ b f0 f1 f2 f3 f4 f5 f6) [.ref (G b), .int (nI l), .int y] (some (.int (nI 0))) (mk7 σ b (upd f0 0 (nI 2)) f1 f2 f3 f4 f5 f6) := by
  refine CS.of (cc := cX6_line) (maxL := 3) (ret := (some .int)) (by decide) rfl (Nat.le_of_ble_eq_true rfl) ?_
  intro p_ e_ s_ m_ args_ below_ meth_ c_
  refine v_eq (pc' := 0) (st' := []) rfl rfl ?_
  refine v_loc [0, 1, 2] [(0, .ref (G b)), (1, .int (nI l)), (2, .int y)] rfl ?_
  refine v_aload_n 0 dX6_line_0 rfl rfl ?_
  refine v_aload_n 0 dX6_line_1 rfl rfl ?_
  refine v_iload_n 1 dX6_line_2 rfl rfl ?_
  refine u_callVv [.int (nI l)] [.ref (G b)] 1 (c_X6_isLine lu Dg E N G shp σ hM f0 f1 f2 f3 f4 f5 f6 hI.nl (by have := hI.nl3; omega) (nI l)) (ci := 6) (C := RX6) (T := TX6) (NF := 13) hM.n hM.s rfl gX6_line_X6_isLine rfl rfl rfl (by decide +kernel) rfl ⟨Nat.le_of_ble_eq_true rfl, Nat.le_of_ble_eq_true rfl⟩ ⟨Nat.le_of_ble_eq_true rfl, Nat.le_of_ble_eq_true rfl⟩ (Nat.le_of_ble_eq_true rfl) rfl dX6_line_3 ?_
  refine v_if_neB 13 dX6_line_6 rfl (fun h6 => ?_) (fun h6 => ?_)
  · skip
    refine v_iload_n 2 dX6_line_13 rfl rfl ?_
    refine v_iconst (nI 0) dX6_line_14 (by decide +kernel) ?_
    refine v_iconst (nI 4) dX6_line_15 (by decide +kernel) ?_
    refine u_callSv [.int y, .int (nI 0), .int (nI 4)] [.ref (G b)] 3 (c_X6_in lu Dg E N G shp (mk7 σ b f0 f1 f2 f3 f4 f5 f6) (y) (nI 0) (nI 4)) gX6_line_X6_in rfl rfl rfl (by decide +kernel) rfl ⟨Nat.le_of_ble_eq_true rfl, Nat.le_of_ble_eq_true rfl⟩ ⟨Nat.le_of_ble_eq_true rfl, Nat.le_of_ble_eq_true rfl⟩ (Nat.le_of_ble_eq_true rfl) rfl dX6_line_16 ?_
    refine v_if_neB 26 dX6_line_19 rfl (fun h19 => ?_) (fun h19 => ?_)
    · skip
      exact absurd ((Rg_le (n := 4) (by omega) y).mp h19) hy
    · skip
      refine v_iconst (nI 2) dX6_line_22 (by decide +kernel) ?_
      refine v_goto 27 dX6_line_23 rfl ?_
      refine u_callVv [.int (nI 2)] [] 1 (c_X6_holds lu Dg E N G shp σ hM f0 f1 f2 f3 f4 f5 f6 2 (by omega)) (ci := 6) (C := RX6) (T := TX6) (NF := 13) hM.n hM.s rfl gX6_line_X6_holds rfl rfl rfl (by decide +kernel) rfl ⟨Nat.le_of_ble_eq_true rfl, Nat.le_of_ble_eq_true rfl⟩ ⟨Nat.le_of_ble_eq_true rfl, Nat.le_of_ble_eq_true rfl⟩ (Nat.le_of_ble_eq_true rfl) rfl dX6_line_27 ?_
      refine v_if_neB 35 dX6_line_30 rfl (fun h30 => ?_) (fun h30 => ?_)
      · skip
        exact absurd h30 (by decide)
      · skip
        refine v_iconst (nI 0) dX6_line_33 (by decide +kernel) ?_
        refine v_iret rfl dX6_line_34 ⟨congrArg (fun z => some (Value.int z)) ?_, congrArg (φ shp) ?_⟩
        · rfl
        · rfl
  · skip
    exact absurd ⟨l, hl, rfl⟩ h6

set_option maxRecDepth 100000 in
theorem inX6_line_X6 : ∀ w ∈ wsX60, w ∈ wsX6_line := by decide +kernel
set_option maxHeartbeats 4000000 in
set_option maxRecDepth 100000 in
/-- line_0_0 -/
theorem c_X6_line_0_0 (lu : Launch) (Dg : va_G) (E : Nat → ClassId) (N : Nat) (G : Nat → Nat) (shp : Nat → (Nat → Int32) → va_E) (σ : Nat → Nat → Int32) {b : Nat} (hM : ModS E G shp N b) (f0 f1 f2 f3 f4 f5 f6 : Nat → Int32) {T : Nat} (hI : Inv T f1) {l : Nat} (hl : l < tn (f1 1))  : CS lu yX6_line wsX6_line { frames := 2, cells := 0, slots := 0, locals := 44 } Dg E N G shp (mk7 σ b f0 f1 f2 f3 f4 f5 f6) [.ref (G b), .int (nI l), .int (nI 0)] (some (.int (f1 (10 + l)))) (mk7 σ b (upd f0 0 (nI 0)) f1 f2 f3 f4 f5 f6) := by
  refine CS.of (cc := cX6_line) (maxL := 3) (ret := (some .int)) (by decide) rfl (Nat.le_of_ble_eq_true rfl) ?_
  intro p_ e_ s_ m_ args_ below_ meth_ c_
  refine v_eq (pc' := 0) (st' := []) rfl rfl ?_
  refine v_loc [0, 1, 2] [(0, .ref (G b)), (1, .int (nI l)), (2, .int (nI 0))] rfl ?_
  have hl3 := Nat.lt_of_lt_of_le hl hI.nl3
  refine v_aload_n 0 dX6_line_0 rfl rfl ?_
  refine v_aload_n 0 dX6_line_1 rfl rfl ?_
  refine v_iload_n 1 dX6_line_2 rfl rfl ?_
  refine u_callVv [.int (nI l)] [.ref (G b)] 1 (c_X6_isLine lu Dg E N G shp σ hM f0 f1 f2 f3 f4 f5 f6 hI.nl (by have := hI.nl3; omega) (nI l)) (ci := 6) (C := RX6) (T := TX6) (NF := 13) hM.n hM.s rfl gX6_line_X6_isLine rfl rfl rfl (by decide +kernel) rfl ⟨Nat.le_of_ble_eq_true rfl, Nat.le_of_ble_eq_true rfl⟩ ⟨Nat.le_of_ble_eq_true rfl, Nat.le_of_ble_eq_true rfl⟩ (Nat.le_of_ble_eq_true rfl) rfl dX6_line_3 ?_
  refine v_if_neB 13 dX6_line_6 rfl (fun h6 => ?_) (fun h6 => ?_)
  · skip
    refine v_iload_n 2 dX6_line_13 rfl rfl ?_
    refine v_iconst (nI 0) dX6_line_14 (by decide +kernel) ?_
    refine v_iconst (nI 4) dX6_line_15 (by decide +kernel) ?_
    refine u_callSv [.int (nI 0), .int (nI 0), .int (nI 4)] [.ref (G b)] 3 (c_X6_in lu Dg E N G shp (mk7 σ b f0 f1 f2 f3 f4 f5 f6) (nI 0) (nI 0) (nI 4)) gX6_line_X6_in rfl rfl rfl (by decide +kernel) rfl ⟨Nat.le_of_ble_eq_true rfl, Nat.le_of_ble_eq_true rfl⟩ ⟨Nat.le_of_ble_eq_true rfl, Nat.le_of_ble_eq_true rfl⟩ (Nat.le_of_ble_eq_true rfl) rfl dX6_line_16 ?_
    refine v_if_neB 26 dX6_line_19 rfl (fun h19 => ?_) (fun h19 => ?_)
    · skip
      refine v_iconst (nI 0) dX6_line_26 (by decide +kernel) ?_
      refine u_callVv [.int (nI 0)] [] 1 (c_X6_holds lu Dg E N G shp σ hM f0 f1 f2 f3 f4 f5 f6 0 (by omega)) (ci := 6) (C := RX6) (T := TX6) (NF := 13) hM.n hM.s rfl gX6_line_X6_holds rfl rfl rfl (by decide +kernel) rfl ⟨Nat.le_of_ble_eq_true rfl, Nat.le_of_ble_eq_true rfl⟩ ⟨Nat.le_of_ble_eq_true rfl, Nat.le_of_ble_eq_true rfl⟩ (Nat.le_of_ble_eq_true rfl) rfl dX6_line_27 ?_
      refine v_if_neB 35 dX6_line_30 rfl (fun h30 => ?_) (fun h30 => ?_)
      · skip
        refine v_iload_n 2 dX6_line_35 rfl rfl ?_
        refine v_tableIn (off := 32) 68 dX6_line_36 (by decide +kernel) (by decide +kernel) (by decide +kernel) rfl ?_
        refine v_aload_n 0 dX6_line_68 rfl rfl ?_
        refine u_getr (k := 1) (C := RX6) (T := TX6) (NF := 13) hM.n hM.s rfl rfl inX6_line_X6 (by decide) (by decide +kernel) rfl dX6_line_69 ?_
        refine v_bipush (nI 10) dX6_line_72 (by decide +kernel) ?_
        refine v_iload_n 1 dX6_line_74 rfl rfl ?_
        refine v_iaddN dX6_line_75 ?_
        refine m_ld1 (10 + l) hM (rfl) (by omega) dX6_line_76 ?_
        refine v_iret rfl dX6_line_77 ⟨congrArg (fun z => some (Value.int z)) ?_, congrArg (φ shp) ?_⟩
        · rfl
        · rfl
      · skip
        exact absurd rfl h30
    · skip
      exact absurd (by decide +kernel) h19
  · skip
    exact absurd ⟨l, hl, rfl⟩ h6

set_option maxHeartbeats 4000000 in
set_option maxRecDepth 100000 in
/-- line_0_1 -/
theorem c_X6_line_0_1 (lu : Launch) (Dg : va_G) (E : Nat → ClassId) (N : Nat) (G : Nat → Nat) (shp : Nat → (Nat → Int32) → va_E) (σ : Nat → Nat → Int32) {b : Nat} (hM : ModS E G shp N b) (f0 f1 f2 f3 f4 f5 f6 : Nat → Int32) {T : Nat} (hI : Inv T f1) {l : Nat} (hl : l < tn (f1 1))  : CS lu yX6_line wsX6_line { frames := 2, cells := 0, slots := 0, locals := 44 } Dg E N G shp (mk7 σ b f0 f1 f2 f3 f4 f5 f6) [.ref (G b), .int (nI l), .int (nI 1)] (some (.int (f1 (13 + l)))) (mk7 σ b (upd f0 0 (nI 0)) f1 f2 f3 f4 f5 f6) := by
  refine CS.of (cc := cX6_line) (maxL := 3) (ret := (some .int)) (by decide) rfl (Nat.le_of_ble_eq_true rfl) ?_
  intro p_ e_ s_ m_ args_ below_ meth_ c_
  refine v_eq (pc' := 0) (st' := []) rfl rfl ?_
  refine v_loc [0, 1, 2] [(0, .ref (G b)), (1, .int (nI l)), (2, .int (nI 1))] rfl ?_
  have hl3 := Nat.lt_of_lt_of_le hl hI.nl3
  refine v_aload_n 0 dX6_line_0 rfl rfl ?_
  refine v_aload_n 0 dX6_line_1 rfl rfl ?_
  refine v_iload_n 1 dX6_line_2 rfl rfl ?_
  refine u_callVv [.int (nI l)] [.ref (G b)] 1 (c_X6_isLine lu Dg E N G shp σ hM f0 f1 f2 f3 f4 f5 f6 hI.nl (by have := hI.nl3; omega) (nI l)) (ci := 6) (C := RX6) (T := TX6) (NF := 13) hM.n hM.s rfl gX6_line_X6_isLine rfl rfl rfl (by decide +kernel) rfl ⟨Nat.le_of_ble_eq_true rfl, Nat.le_of_ble_eq_true rfl⟩ ⟨Nat.le_of_ble_eq_true rfl, Nat.le_of_ble_eq_true rfl⟩ (Nat.le_of_ble_eq_true rfl) rfl dX6_line_3 ?_
  refine v_if_neB 13 dX6_line_6 rfl (fun h6 => ?_) (fun h6 => ?_)
  · skip
    refine v_iload_n 2 dX6_line_13 rfl rfl ?_
    refine v_iconst (nI 0) dX6_line_14 (by decide +kernel) ?_
    refine v_iconst (nI 4) dX6_line_15 (by decide +kernel) ?_
    refine u_callSv [.int (nI 1), .int (nI 0), .int (nI 4)] [.ref (G b)] 3 (c_X6_in lu Dg E N G shp (mk7 σ b f0 f1 f2 f3 f4 f5 f6) (nI 1) (nI 0) (nI 4)) gX6_line_X6_in rfl rfl rfl (by decide +kernel) rfl ⟨Nat.le_of_ble_eq_true rfl, Nat.le_of_ble_eq_true rfl⟩ ⟨Nat.le_of_ble_eq_true rfl, Nat.le_of_ble_eq_true rfl⟩ (Nat.le_of_ble_eq_true rfl) rfl dX6_line_16 ?_
    refine v_if_neB 26 dX6_line_19 rfl (fun h19 => ?_) (fun h19 => ?_)
    · skip
      refine v_iconst (nI 0) dX6_line_26 (by decide +kernel) ?_
      refine u_callVv [.int (nI 0)] [] 1 (c_X6_holds lu Dg E N G shp σ hM f0 f1 f2 f3 f4 f5 f6 0 (by omega)) (ci := 6) (C := RX6) (T := TX6) (NF := 13) hM.n hM.s rfl gX6_line_X6_holds rfl rfl rfl (by decide +kernel) rfl ⟨Nat.le_of_ble_eq_true rfl, Nat.le_of_ble_eq_true rfl⟩ ⟨Nat.le_of_ble_eq_true rfl, Nat.le_of_ble_eq_true rfl⟩ (Nat.le_of_ble_eq_true rfl) rfl dX6_line_27 ?_
      refine v_if_neB 35 dX6_line_30 rfl (fun h30 => ?_) (fun h30 => ?_)
      · skip
        refine v_iload_n 2 dX6_line_35 rfl rfl ?_
        refine v_tableIn (off := 42) 78 dX6_line_36 (by decide +kernel) (by decide +kernel) (by decide +kernel) rfl ?_
        refine v_aload_n 0 dX6_line_78 rfl rfl ?_
        refine u_getr (k := 1) (C := RX6) (T := TX6) (NF := 13) hM.n hM.s rfl rfl inX6_line_X6 (by decide) (by decide +kernel) rfl dX6_line_79 ?_
        refine v_bipush (nI 13) dX6_line_82 (by decide +kernel) ?_
        refine v_iload_n 1 dX6_line_84 rfl rfl ?_
        refine v_iaddN dX6_line_85 ?_
        refine m_ld1 (13 + l) hM (rfl) (by omega) dX6_line_86 ?_
        refine v_iret rfl dX6_line_87 ⟨congrArg (fun z => some (Value.int z)) ?_, congrArg (φ shp) ?_⟩
        · rfl
        · rfl
      · skip
        exact absurd rfl h30
    · skip
      exact absurd (by decide +kernel) h19
  · skip
    exact absurd ⟨l, hl, rfl⟩ h6

set_option maxHeartbeats 4000000 in
set_option maxRecDepth 100000 in
/-- line_0_2 -/
theorem c_X6_line_0_2 (lu : Launch) (Dg : va_G) (E : Nat → ClassId) (N : Nat) (G : Nat → Nat) (shp : Nat → (Nat → Int32) → va_E) (σ : Nat → Nat → Int32) {b : Nat} (hM : ModS E G shp N b) (f0 f1 f2 f3 f4 f5 f6 : Nat → Int32) {T : Nat} (hI : Inv T f1) {l : Nat} (hl : l < tn (f1 1))  : CS lu yX6_line wsX6_line { frames := 2, cells := 0, slots := 0, locals := 44 } Dg E N G shp (mk7 σ b f0 f1 f2 f3 f4 f5 f6) [.ref (G b), .int (nI l), .int (nI 2)] (some (.int (f1 (16 + l)))) (mk7 σ b (upd f0 0 (nI 0)) f1 f2 f3 f4 f5 f6) := by
  refine CS.of (cc := cX6_line) (maxL := 3) (ret := (some .int)) (by decide) rfl (Nat.le_of_ble_eq_true rfl) ?_
  intro p_ e_ s_ m_ args_ below_ meth_ c_
  refine v_eq (pc' := 0) (st' := []) rfl rfl ?_
  refine v_loc [0, 1, 2] [(0, .ref (G b)), (1, .int (nI l)), (2, .int (nI 2))] rfl ?_
  have hl3 := Nat.lt_of_lt_of_le hl hI.nl3
  refine v_aload_n 0 dX6_line_0 rfl rfl ?_
  refine v_aload_n 0 dX6_line_1 rfl rfl ?_
  refine v_iload_n 1 dX6_line_2 rfl rfl ?_
  refine u_callVv [.int (nI l)] [.ref (G b)] 1 (c_X6_isLine lu Dg E N G shp σ hM f0 f1 f2 f3 f4 f5 f6 hI.nl (by have := hI.nl3; omega) (nI l)) (ci := 6) (C := RX6) (T := TX6) (NF := 13) hM.n hM.s rfl gX6_line_X6_isLine rfl rfl rfl (by decide +kernel) rfl ⟨Nat.le_of_ble_eq_true rfl, Nat.le_of_ble_eq_true rfl⟩ ⟨Nat.le_of_ble_eq_true rfl, Nat.le_of_ble_eq_true rfl⟩ (Nat.le_of_ble_eq_true rfl) rfl dX6_line_3 ?_
  refine v_if_neB 13 dX6_line_6 rfl (fun h6 => ?_) (fun h6 => ?_)
  · skip
    refine v_iload_n 2 dX6_line_13 rfl rfl ?_
    refine v_iconst (nI 0) dX6_line_14 (by decide +kernel) ?_
    refine v_iconst (nI 4) dX6_line_15 (by decide +kernel) ?_
    refine u_callSv [.int (nI 2), .int (nI 0), .int (nI 4)] [.ref (G b)] 3 (c_X6_in lu Dg E N G shp (mk7 σ b f0 f1 f2 f3 f4 f5 f6) (nI 2) (nI 0) (nI 4)) gX6_line_X6_in rfl rfl rfl (by decide +kernel) rfl ⟨Nat.le_of_ble_eq_true rfl, Nat.le_of_ble_eq_true rfl⟩ ⟨Nat.le_of_ble_eq_true rfl, Nat.le_of_ble_eq_true rfl⟩ (Nat.le_of_ble_eq_true rfl) rfl dX6_line_16 ?_
    refine v_if_neB 26 dX6_line_19 rfl (fun h19 => ?_) (fun h19 => ?_)
    · skip
      refine v_iconst (nI 0) dX6_line_26 (by decide +kernel) ?_
      refine u_callVv [.int (nI 0)] [] 1 (c_X6_holds lu Dg E N G shp σ hM f0 f1 f2 f3 f4 f5 f6 0 (by omega)) (ci := 6) (C := RX6) (T := TX6) (NF := 13) hM.n hM.s rfl gX6_line_X6_holds rfl rfl rfl (by decide +kernel) rfl ⟨Nat.le_of_ble_eq_true rfl, Nat.le_of_ble_eq_true rfl⟩ ⟨Nat.le_of_ble_eq_true rfl, Nat.le_of_ble_eq_true rfl⟩ (Nat.le_of_ble_eq_true rfl) rfl dX6_line_27 ?_
      refine v_if_neB 35 dX6_line_30 rfl (fun h30 => ?_) (fun h30 => ?_)
      · skip
        refine v_iload_n 2 dX6_line_35 rfl rfl ?_
        refine v_tableIn (off := 52) 88 dX6_line_36 (by decide +kernel) (by decide +kernel) (by decide +kernel) rfl ?_
        refine v_aload_n 0 dX6_line_88 rfl rfl ?_
        refine u_getr (k := 1) (C := RX6) (T := TX6) (NF := 13) hM.n hM.s rfl rfl inX6_line_X6 (by decide) (by decide +kernel) rfl dX6_line_89 ?_
        refine v_bipush (nI 16) dX6_line_92 (by decide +kernel) ?_
        refine v_iload_n 1 dX6_line_94 rfl rfl ?_
        refine v_iaddN dX6_line_95 ?_
        refine m_ld1 (16 + l) hM (rfl) (by omega) dX6_line_96 ?_
        refine v_iret rfl dX6_line_97 ⟨congrArg (fun z => some (Value.int z)) ?_, congrArg (φ shp) ?_⟩
        · rfl
        · rfl
      · skip
        exact absurd rfl h30
    · skip
      exact absurd (by decide +kernel) h19
  · skip
    exact absurd ⟨l, hl, rfl⟩ h6

set_option maxHeartbeats 4000000 in
set_option maxRecDepth 100000 in
/-- line_0_3 -/
theorem c_X6_line_0_3 (lu : Launch) (Dg : va_G) (E : Nat → ClassId) (N : Nat) (G : Nat → Nat) (shp : Nat → (Nat → Int32) → va_E) (σ : Nat → Nat → Int32) {b : Nat} (hM : ModS E G shp N b) (f0 f1 f2 f3 f4 f5 f6 : Nat → Int32) {T : Nat} (hI : Inv T f1) {l : Nat} (hl : l < tn (f1 1))  : CS lu yX6_line wsX6_line { frames := 2, cells := 0, slots := 0, locals := 44 } Dg E N G shp (mk7 σ b f0 f1 f2 f3 f4 f5 f6) [.ref (G b), .int (nI l), .int (nI 3)] (some (.int (f1 (19 + l)))) (mk7 σ b (upd f0 0 (nI 0)) f1 f2 f3 f4 f5 f6) := by
  refine CS.of (cc := cX6_line) (maxL := 3) (ret := (some .int)) (by decide) rfl (Nat.le_of_ble_eq_true rfl) ?_
  intro p_ e_ s_ m_ args_ below_ meth_ c_
  refine v_eq (pc' := 0) (st' := []) rfl rfl ?_
  refine v_loc [0, 1, 2] [(0, .ref (G b)), (1, .int (nI l)), (2, .int (nI 3))] rfl ?_
  have hl3 := Nat.lt_of_lt_of_le hl hI.nl3
  refine v_aload_n 0 dX6_line_0 rfl rfl ?_
  refine v_aload_n 0 dX6_line_1 rfl rfl ?_
  refine v_iload_n 1 dX6_line_2 rfl rfl ?_
  refine u_callVv [.int (nI l)] [.ref (G b)] 1 (c_X6_isLine lu Dg E N G shp σ hM f0 f1 f2 f3 f4 f5 f6 hI.nl (by have := hI.nl3; omega) (nI l)) (ci := 6) (C := RX6) (T := TX6) (NF := 13) hM.n hM.s rfl gX6_line_X6_isLine rfl rfl rfl (by decide +kernel) rfl ⟨Nat.le_of_ble_eq_true rfl, Nat.le_of_ble_eq_true rfl⟩ ⟨Nat.le_of_ble_eq_true rfl, Nat.le_of_ble_eq_true rfl⟩ (Nat.le_of_ble_eq_true rfl) rfl dX6_line_3 ?_
  refine v_if_neB 13 dX6_line_6 rfl (fun h6 => ?_) (fun h6 => ?_)
  · skip
    refine v_iload_n 2 dX6_line_13 rfl rfl ?_
    refine v_iconst (nI 0) dX6_line_14 (by decide +kernel) ?_
    refine v_iconst (nI 4) dX6_line_15 (by decide +kernel) ?_
    refine u_callSv [.int (nI 3), .int (nI 0), .int (nI 4)] [.ref (G b)] 3 (c_X6_in lu Dg E N G shp (mk7 σ b f0 f1 f2 f3 f4 f5 f6) (nI 3) (nI 0) (nI 4)) gX6_line_X6_in rfl rfl rfl (by decide +kernel) rfl ⟨Nat.le_of_ble_eq_true rfl, Nat.le_of_ble_eq_true rfl⟩ ⟨Nat.le_of_ble_eq_true rfl, Nat.le_of_ble_eq_true rfl⟩ (Nat.le_of_ble_eq_true rfl) rfl dX6_line_16 ?_
    refine v_if_neB 26 dX6_line_19 rfl (fun h19 => ?_) (fun h19 => ?_)
    · skip
      refine v_iconst (nI 0) dX6_line_26 (by decide +kernel) ?_
      refine u_callVv [.int (nI 0)] [] 1 (c_X6_holds lu Dg E N G shp σ hM f0 f1 f2 f3 f4 f5 f6 0 (by omega)) (ci := 6) (C := RX6) (T := TX6) (NF := 13) hM.n hM.s rfl gX6_line_X6_holds rfl rfl rfl (by decide +kernel) rfl ⟨Nat.le_of_ble_eq_true rfl, Nat.le_of_ble_eq_true rfl⟩ ⟨Nat.le_of_ble_eq_true rfl, Nat.le_of_ble_eq_true rfl⟩ (Nat.le_of_ble_eq_true rfl) rfl dX6_line_27 ?_
      refine v_if_neB 35 dX6_line_30 rfl (fun h30 => ?_) (fun h30 => ?_)
      · skip
        refine v_iload_n 2 dX6_line_35 rfl rfl ?_
        refine v_tableIn (off := 62) 98 dX6_line_36 (by decide +kernel) (by decide +kernel) (by decide +kernel) rfl ?_
        refine v_aload_n 0 dX6_line_98 rfl rfl ?_
        refine u_getr (k := 1) (C := RX6) (T := TX6) (NF := 13) hM.n hM.s rfl rfl inX6_line_X6 (by decide) (by decide +kernel) rfl dX6_line_99 ?_
        refine v_bipush (nI 19) dX6_line_102 (by decide +kernel) ?_
        refine v_iload_n 1 dX6_line_104 rfl rfl ?_
        refine v_iaddN dX6_line_105 ?_
        refine m_ld1 (19 + l) hM (rfl) (by omega) dX6_line_106 ?_
        refine v_iret rfl dX6_line_107 ⟨congrArg (fun z => some (Value.int z)) ?_, congrArg (φ shp) ?_⟩
        · rfl
        · rfl
      · skip
        exact absurd rfl h30
    · skip
      exact absurd (by decide +kernel) h19
  · skip
    exact absurd ⟨l, hl, rfl⟩ h6

set_option maxHeartbeats 4000000 in
set_option maxRecDepth 100000 in
/-- line_0_4 -/
theorem c_X6_line_0_4 (lu : Launch) (Dg : va_G) (E : Nat → ClassId) (N : Nat) (G : Nat → Nat) (shp : Nat → (Nat → Int32) → va_E) (σ : Nat → Nat → Int32) {b : Nat} (hM : ModS E G shp N b) (f0 f1 f2 f3 f4 f5 f6 : Nat → Int32) {T : Nat} (hI : Inv T f1) {l : Nat} (hl : l < tn (f1 1))  : CS lu yX6_line wsX6_line { frames := 2, cells := 0, slots := 0, locals := 44 } Dg E N G shp (mk7 σ b f0 f1 f2 f3 f4 f5 f6) [.ref (G b), .int (nI l), .int (nI 4)] (some (.int (stoodN f1 l (tn (f1 (13 + l)))))) (mk7 σ b (upd f0 0 (nI 0)) f1 f2 f3 f4 f5 f6) := by
  refine CS.of (cc := cX6_line) (maxL := 3) (ret := (some .int)) (by decide) rfl (Nat.le_of_ble_eq_true rfl) ?_
  intro p_ e_ s_ m_ args_ below_ meth_ c_
  refine v_eq (pc' := 0) (st' := []) rfl rfl ?_
  refine v_loc [0, 1, 2] [(0, .ref (G b)), (1, .int (nI l)), (2, .int (nI 4))] rfl ?_
  have hl3 := Nat.lt_of_lt_of_le hl hI.nl3
  refine v_aload_n 0 dX6_line_0 rfl rfl ?_
  refine v_aload_n 0 dX6_line_1 rfl rfl ?_
  refine v_iload_n 1 dX6_line_2 rfl rfl ?_
  refine u_callVv [.int (nI l)] [.ref (G b)] 1 (c_X6_isLine lu Dg E N G shp σ hM f0 f1 f2 f3 f4 f5 f6 hI.nl (by have := hI.nl3; omega) (nI l)) (ci := 6) (C := RX6) (T := TX6) (NF := 13) hM.n hM.s rfl gX6_line_X6_isLine rfl rfl rfl (by decide +kernel) rfl ⟨Nat.le_of_ble_eq_true rfl, Nat.le_of_ble_eq_true rfl⟩ ⟨Nat.le_of_ble_eq_true rfl, Nat.le_of_ble_eq_true rfl⟩ (Nat.le_of_ble_eq_true rfl) rfl dX6_line_3 ?_
  refine v_if_neB 13 dX6_line_6 rfl (fun h6 => ?_) (fun h6 => ?_)
  · skip
    refine v_iload_n 2 dX6_line_13 rfl rfl ?_
    refine v_iconst (nI 0) dX6_line_14 (by decide +kernel) ?_
    refine v_iconst (nI 4) dX6_line_15 (by decide +kernel) ?_
    refine u_callSv [.int (nI 4), .int (nI 0), .int (nI 4)] [.ref (G b)] 3 (c_X6_in lu Dg E N G shp (mk7 σ b f0 f1 f2 f3 f4 f5 f6) (nI 4) (nI 0) (nI 4)) gX6_line_X6_in rfl rfl rfl (by decide +kernel) rfl ⟨Nat.le_of_ble_eq_true rfl, Nat.le_of_ble_eq_true rfl⟩ ⟨Nat.le_of_ble_eq_true rfl, Nat.le_of_ble_eq_true rfl⟩ (Nat.le_of_ble_eq_true rfl) rfl dX6_line_16 ?_
    refine v_if_neB 26 dX6_line_19 rfl (fun h19 => ?_) (fun h19 => ?_)
    · skip
      refine v_iconst (nI 0) dX6_line_26 (by decide +kernel) ?_
      refine u_callVv [.int (nI 0)] [] 1 (c_X6_holds lu Dg E N G shp σ hM f0 f1 f2 f3 f4 f5 f6 0 (by omega)) (ci := 6) (C := RX6) (T := TX6) (NF := 13) hM.n hM.s rfl gX6_line_X6_holds rfl rfl rfl (by decide +kernel) rfl ⟨Nat.le_of_ble_eq_true rfl, Nat.le_of_ble_eq_true rfl⟩ ⟨Nat.le_of_ble_eq_true rfl, Nat.le_of_ble_eq_true rfl⟩ (Nat.le_of_ble_eq_true rfl) rfl dX6_line_27 ?_
      refine v_if_neB 35 dX6_line_30 rfl (fun h30 => ?_) (fun h30 => ?_)
      · skip
        refine v_iload_n 2 dX6_line_35 rfl rfl ?_
        refine v_tableOut 108 dX6_line_36 (by decide +kernel) rfl ?_
        refine v_aload_n 0 dX6_line_108 rfl rfl ?_
        refine v_iload_n 1 dX6_line_109 rfl rfl ?_
        refine u_callVv [.int (nI l)] [] 1 (c_X6_stoodIn lu Dg E N G shp σ hM (upd f0 0 (nI 0)) f1 f2 f3 f4 f5 f6 hI hl) (ci := 6) (C := RX6) (T := TX6) (NF := 13) hM.n hM.s rfl gX6_line_X6_stoodIn rfl rfl rfl (by decide +kernel) rfl ⟨Nat.le_of_ble_eq_true rfl, Nat.le_of_ble_eq_true rfl⟩ ⟨Nat.le_of_ble_eq_true rfl, Nat.le_of_ble_eq_true rfl⟩ (Nat.le_of_ble_eq_true rfl) rfl dX6_line_110 ?_
        refine v_iret rfl dX6_line_113 ⟨congrArg (fun z => some (Value.int z)) ?_, congrArg (φ shp) ?_⟩
        · rfl
        · rfl
      · skip
        exact absurd rfl h30
    · skip
      exact absurd (by decide +kernel) h19
  · skip
    exact absurd ⟨l, hl, rfl⟩ h6

set_option maxHeartbeats 4000000 in
set_option maxRecDepth 100000 in
/-- at_1 -/
theorem c_X6_at_1 (lu : Launch) (Dg : va_G) (E : Nat → ClassId) (N : Nat) (G : Nat → Nat) (shp : Nat → (Nat → Int32) → va_E) (σ : Nat → Nat → Int32) {b : Nat} (hM : ModS E G shp N b) (f0 f1 f2 f3 f4 f5 f6 : Nat → Int32) {T : Nat} (hI : Inv T f1) (x y : Int32) (hx : ¬ Rg (tn (f1 1)) x)  : CS lu yX6_at wsX6_at { frames := 2, cells := 0, slots := 0, locals := 43 } Dg E N G shp (mk7 σ b f0 f1 f2 f3 f4 f5 f6) [.ref (G b), .int x, .int y] (some (.int (nI 0))) (mk7 σ b (upd f0 0 (nI 1)) f1 f2 f3 f4 f5 f6) := by
  refine CS.of (cc := cX6_at) (maxL := 3) (ret := (some .int)) (by decide) rfl (Nat.le_of_ble_eq_true rfl) ?_
  intro p_ e_ s_ m_ args_ below_ meth_ c_
  refine v_eq (pc' := 0) (st' := []) rfl rfl ?_
  refine v_loc [0, 1, 2] [(0, .ref (G b)), (1, .int x), (2, .int y)] rfl ?_
  refine v_aload_n 0 dX6_at_0 rfl rfl ?_
  refine v_aload_n 0 dX6_at_1 rfl rfl ?_
  refine v_iload_n 1 dX6_at_2 rfl rfl ?_
  refine u_callVv [.int x] [.ref (G b)] 1 (c_X6_isLine lu Dg E N G shp σ hM f0 f1 f2 f3 f4 f5 f6 hI.nl (by have := hI.nl3; omega) (x)) (ci := 6) (C := RX6) (T := TX6) (NF := 13) hM.n hM.s rfl gX6_at_X6_isLine rfl rfl rfl (by decide +kernel) rfl ⟨Nat.le_of_ble_eq_true rfl, Nat.le_of_ble_eq_true rfl⟩ ⟨Nat.le_of_ble_eq_true rfl, Nat.le_of_ble_eq_true rfl⟩ (Nat.le_of_ble_eq_true rfl) rfl dX6_at_3 ?_
  refine v_if_neB 13 dX6_at_6 rfl (fun h6 => ?_) (fun h6 => ?_)
  · skip
    exact absurd h6 hx
  · skip
    refine v_iconst (nI 1) dX6_at_9 (by decide +kernel) ?_
    refine v_goto 22 dX6_at_10 rfl ?_
    refine u_callVv [.int (nI 1)] [] 1 (c_X6_holds lu Dg E N G shp σ hM f0 f1 f2 f3 f4 f5 f6 1 (by omega)) (ci := 6) (C := RX6) (T := TX6) (NF := 13) hM.n hM.s rfl gX6_at_X6_holds rfl rfl rfl (by decide +kernel) rfl ⟨Nat.le_of_ble_eq_true rfl, Nat.le_of_ble_eq_true rfl⟩ ⟨Nat.le_of_ble_eq_true rfl, Nat.le_of_ble_eq_true rfl⟩ (Nat.le_of_ble_eq_true rfl) rfl dX6_at_22 ?_
    refine v_if_neB 30 dX6_at_25 rfl (fun h25 => ?_) (fun h25 => ?_)
    · skip
      exact absurd h25 (by decide)
    · skip
      refine v_iconst (nI 0) dX6_at_28 (by decide +kernel) ?_
      refine v_iret rfl dX6_at_29 ⟨congrArg (fun z => some (Value.int z)) ?_, congrArg (φ shp) ?_⟩
      · rfl
      · rfl

set_option maxHeartbeats 4000000 in
set_option maxRecDepth 100000 in
/-- at_2 -/
theorem c_X6_at_2 (lu : Launch) (Dg : va_G) (E : Nat → ClassId) (N : Nat) (G : Nat → Nat) (shp : Nat → (Nat → Int32) → va_E) (σ : Nat → Nat → Int32) {b : Nat} (hM : ModS E G shp N b) (f0 f1 f2 f3 f4 f5 f6 : Nat → Int32) {T : Nat} (hI : Inv T f1) {l : Nat} (hl : l < tn (f1 1)) (y : Int32) (hy : y < 0)  : CS lu yX6_at wsX6_at { frames := 2, cells := 0, slots := 0, locals := 43 } Dg E N G shp (mk7 σ b f0 f1 f2 f3 f4 f5 f6) [.ref (G b), .int (nI l), .int y] (some (.int (nI 0))) (mk7 σ b (upd f0 0 (nI 2)) f1 f2 f3 f4 f5 f6) := by
  refine CS.of (cc := cX6_at) (maxL := 3) (ret := (some .int)) (by decide) rfl (Nat.le_of_ble_eq_true rfl) ?_
  intro p_ e_ s_ m_ args_ below_ meth_ c_
  refine v_eq (pc' := 0) (st' := []) rfl rfl ?_
  refine v_loc [0, 1, 2] [(0, .ref (G b)), (1, .int (nI l)), (2, .int y)] rfl ?_
  refine v_aload_n 0 dX6_at_0 rfl rfl ?_
  refine v_aload_n 0 dX6_at_1 rfl rfl ?_
  refine v_iload_n 1 dX6_at_2 rfl rfl ?_
  refine u_callVv [.int (nI l)] [.ref (G b)] 1 (c_X6_isLine lu Dg E N G shp σ hM f0 f1 f2 f3 f4 f5 f6 hI.nl (by have := hI.nl3; omega) (nI l)) (ci := 6) (C := RX6) (T := TX6) (NF := 13) hM.n hM.s rfl gX6_at_X6_isLine rfl rfl rfl (by decide +kernel) rfl ⟨Nat.le_of_ble_eq_true rfl, Nat.le_of_ble_eq_true rfl⟩ ⟨Nat.le_of_ble_eq_true rfl, Nat.le_of_ble_eq_true rfl⟩ (Nat.le_of_ble_eq_true rfl) rfl dX6_at_3 ?_
  refine v_if_neB 13 dX6_at_6 rfl (fun h6 => ?_) (fun h6 => ?_)
  · skip
    refine v_iload_n 2 dX6_at_13 rfl rfl ?_
    refine v_if_ge 21 dX6_at_14 rfl (fun h14 => ?_) (fun h14 => ?_)
    · skip
      exact absurd hy (Int32.not_lt.mpr h14)
    · skip
      refine v_iconst (nI 2) dX6_at_17 (by decide +kernel) ?_
      refine v_goto 22 dX6_at_18 rfl ?_
      refine u_callVv [.int (nI 2)] [] 1 (c_X6_holds lu Dg E N G shp σ hM f0 f1 f2 f3 f4 f5 f6 2 (by omega)) (ci := 6) (C := RX6) (T := TX6) (NF := 13) hM.n hM.s rfl gX6_at_X6_holds rfl rfl rfl (by decide +kernel) rfl ⟨Nat.le_of_ble_eq_true rfl, Nat.le_of_ble_eq_true rfl⟩ ⟨Nat.le_of_ble_eq_true rfl, Nat.le_of_ble_eq_true rfl⟩ (Nat.le_of_ble_eq_true rfl) rfl dX6_at_22 ?_
      refine v_if_neB 30 dX6_at_25 rfl (fun h25 => ?_) (fun h25 => ?_)
      · skip
        exact absurd h25 (by decide)
      · skip
        refine v_iconst (nI 0) dX6_at_28 (by decide +kernel) ?_
        refine v_iret rfl dX6_at_29 ⟨congrArg (fun z => some (Value.int z)) ?_, congrArg (φ shp) ?_⟩
        · rfl
        · rfl
  · skip
    exact absurd ⟨l, hl, rfl⟩ h6

set_option maxRecDepth 100000 in
theorem inX6_at_X6 : ∀ w ∈ wsX60, w ∈ wsX6_at := by decide +kernel
set_option maxHeartbeats 4000000 in
set_option maxRecDepth 100000 in
/-- at_0 -/
theorem c_X6_at_0 (lu : Launch) (Dg : va_G) (E : Nat → ClassId) (N : Nat) (G : Nat → Nat) (shp : Nat → (Nat → Int32) → va_E) (σ : Nat → Nat → Int32) {b : Nat} (hM : ModS E G shp N b) (f0 f1 f2 f3 f4 f5 f6 : Nat → Int32) {T : Nat} (hI : Inv T f1) {l : Nat} (hl : l < tn (f1 1)) {k : Nat} (hk : k < 2 ^ 31)  : CS lu yX6_at wsX6_at { frames := 2, cells := 0, slots := 0, locals := 43 } Dg E N G shp (mk7 σ b f0 f1 f2 f3 f4 f5 f6) [.ref (G b), .int (nI l), .int (nI k)] (some (.int (if k < tn (f1 (13 + l)) then f1 (22 + 12 * l + k) else -1))) (mk7 σ b (upd f0 0 (nI 0)) f1 f2 f3 f4 f5 f6) := by
  refine CS.of (cc := cX6_at) (maxL := 3) (ret := (some .int)) (by decide) rfl (Nat.le_of_ble_eq_true rfl) ?_
  intro p_ e_ s_ m_ args_ below_ meth_ c_
  refine v_eq (pc' := 0) (st' := []) rfl rfl ?_
  refine v_loc [0, 1, 2] [(0, .ref (G b)), (1, .int (nI l)), (2, .int (nI k))] rfl ?_
  have hl3 := Nat.lt_of_lt_of_le hl hI.nl3
  have h12 := hI.len12 hl
  refine v_aload_n 0 dX6_at_0 rfl rfl ?_
  refine v_aload_n 0 dX6_at_1 rfl rfl ?_
  refine v_iload_n 1 dX6_at_2 rfl rfl ?_
  refine u_callVv [.int (nI l)] [.ref (G b)] 1 (c_X6_isLine lu Dg E N G shp σ hM f0 f1 f2 f3 f4 f5 f6 hI.nl (by have := hI.nl3; omega) (nI l)) (ci := 6) (C := RX6) (T := TX6) (NF := 13) hM.n hM.s rfl gX6_at_X6_isLine rfl rfl rfl (by decide +kernel) rfl ⟨Nat.le_of_ble_eq_true rfl, Nat.le_of_ble_eq_true rfl⟩ ⟨Nat.le_of_ble_eq_true rfl, Nat.le_of_ble_eq_true rfl⟩ (Nat.le_of_ble_eq_true rfl) rfl dX6_at_3 ?_
  refine v_if_neB 13 dX6_at_6 rfl (fun h6 => ?_) (fun h6 => ?_)
  · skip
    refine v_iload_n 2 dX6_at_13 rfl rfl ?_
    refine v_if_geN 21 hk dX6_at_14 rfl ?_
    refine v_iconst (nI 0) dX6_at_21 (by decide +kernel) ?_
    refine u_callVv [.int (nI 0)] [] 1 (c_X6_holds lu Dg E N G shp σ hM f0 f1 f2 f3 f4 f5 f6 0 (by omega)) (ci := 6) (C := RX6) (T := TX6) (NF := 13) hM.n hM.s rfl gX6_at_X6_holds rfl rfl rfl (by decide +kernel) rfl ⟨Nat.le_of_ble_eq_true rfl, Nat.le_of_ble_eq_true rfl⟩ ⟨Nat.le_of_ble_eq_true rfl, Nat.le_of_ble_eq_true rfl⟩ (Nat.le_of_ble_eq_true rfl) rfl dX6_at_22 ?_
    refine v_if_neB 30 dX6_at_25 rfl (fun h25 => ?_) (fun h25 => ?_)
    · skip
      refine v_iload_n 2 dX6_at_30 rfl rfl ?_
      refine v_aload_n 0 dX6_at_31 rfl rfl ?_
      refine u_getr (k := 1) (C := RX6) (T := TX6) (NF := 13) hM.n hM.s rfl rfl inX6_at_X6 (by decide) (by decide +kernel) rfl dX6_at_32 ?_
      refine v_bipush (nI 13) dX6_at_35 (by decide +kernel) ?_
      refine v_iload_n 1 dX6_at_37 rfl rfl ?_
      refine v_iaddN dX6_at_38 ?_
      refine m_ld1 (13 + l) hM (rfl) (by omega) dX6_at_39 ?_
      refine v_topi (nI (tn (f1 (13 + l)))) (hI.len hl) ?_
      refine v_icmp_geN 60 (by omega) (by omega) dX6_at_40 rfl (fun h40 => ?_) (fun h40 => ?_)
      · skip
        refine v_iconst ((-1)) dX6_at_60 (by decide +kernel) ?_
        refine v_iret rfl dX6_at_61 ⟨congrArg (fun z => some (Value.int z)) ?_, congrArg (φ shp) ?_⟩
        · rw [if_neg (by omega)]
        · rfl
      · skip
        refine v_aload_n 0 dX6_at_43 rfl rfl ?_
        refine u_getr (k := 1) (C := RX6) (T := TX6) (NF := 13) hM.n hM.s rfl rfl inX6_at_X6 (by decide) (by decide +kernel) rfl dX6_at_44 ?_
        refine v_bipush (nI 22) dX6_at_47 (by decide +kernel) ?_
        refine v_bipush (nI 12) dX6_at_49 (by decide +kernel) ?_
        refine v_iload_n 1 dX6_at_51 rfl rfl ?_
        refine v_imulN dX6_at_52 ?_
        refine v_iaddN dX6_at_53 ?_
        refine v_iload_n 2 dX6_at_54 rfl rfl ?_
        refine v_iaddN dX6_at_55 ?_
        refine m_ld1 (22 + (12 * l) + k) hM (rfl) (by omega) dX6_at_56 ?_
        refine v_goto 61 dX6_at_57 rfl ?_
        refine v_iret rfl dX6_at_61 ⟨congrArg (fun z => some (Value.int z)) ?_, congrArg (φ shp) ?_⟩
        · rw [if_pos (by omega)]
        · rfl
    · skip
      exact absurd rfl h25
  · skip
    exact absurd ⟨l, hl, rfl⟩ h6

set_option maxHeartbeats 4000000 in
set_option maxRecDepth 100000 in
/-- person_1 -/
theorem c_X6_person_1 (lu : Launch) (Dg : va_G) (E : Nat → ClassId) (N : Nat) (G : Nat → Nat) (shp : Nat → (Nat → Int32) → va_E) (σ : Nat → Nat → Int32) {b : Nat} (hM : ModS E G shp N b) (f0 f1 f2 f3 f4 f5 f6 : Nat → Int32) {T : Nat} (hI : Inv T f1) (x y : Int32) (hx : ¬ Rg (tn (f1 2)) x)  : CS lu yX6_person wsX6_person { frames := 2, cells := 0, slots := 0, locals := 45 } Dg E N G shp (mk7 σ b f0 f1 f2 f3 f4 f5 f6) [.ref (G b), .int x, .int y] (some (.int (nI 0))) (mk7 σ b (upd f0 0 (nI 1)) f1 f2 f3 f4 f5 f6) := by
  refine CS.of (cc := cX6_person) (maxL := 3) (ret := (some .int)) (by decide) rfl (Nat.le_of_ble_eq_true rfl) ?_
  intro p_ e_ s_ m_ args_ below_ meth_ c_
  refine v_eq (pc' := 0) (st' := []) rfl rfl ?_
  refine v_loc [0, 1, 2] [(0, .ref (G b)), (1, .int x), (2, .int y)] rfl ?_
  refine v_aload_n 0 dX6_person_0 rfl rfl ?_
  refine v_aload_n 0 dX6_person_1 rfl rfl ?_
  refine v_iload_n 1 dX6_person_2 rfl rfl ?_
  refine u_callVv [.int x] [.ref (G b)] 1 (c_X6_isPerson lu Dg E N G shp σ hM f0 f1 f2 f3 f4 f5 f6 hI.np (by have := hI.np30; omega) (x)) (ci := 6) (C := RX6) (T := TX6) (NF := 13) hM.n hM.s rfl gX6_person_X6_isPerson rfl rfl rfl (by decide +kernel) rfl ⟨Nat.le_of_ble_eq_true rfl, Nat.le_of_ble_eq_true rfl⟩ ⟨Nat.le_of_ble_eq_true rfl, Nat.le_of_ble_eq_true rfl⟩ (Nat.le_of_ble_eq_true rfl) rfl dX6_person_3 ?_
  refine v_if_neB 13 dX6_person_6 rfl (fun h6 => ?_) (fun h6 => ?_)
  · skip
    exact absurd h6 hx
  · skip
    refine v_iconst (nI 1) dX6_person_9 (by decide +kernel) ?_
    refine v_goto 28 dX6_person_10 rfl ?_
    refine u_callVv [.int (nI 1)] [] 1 (c_X6_holds lu Dg E N G shp σ hM f0 f1 f2 f3 f4 f5 f6 1 (by omega)) (ci := 6) (C := RX6) (T := TX6) (NF := 13) hM.n hM.s rfl gX6_person_X6_holds rfl rfl rfl (by decide +kernel) rfl ⟨Nat.le_of_ble_eq_true rfl, Nat.le_of_ble_eq_true rfl⟩ ⟨Nat.le_of_ble_eq_true rfl, Nat.le_of_ble_eq_true rfl⟩ (Nat.le_of_ble_eq_true rfl) rfl dX6_person_28 ?_
    refine v_if_neB 36 dX6_person_31 rfl (fun h31 => ?_) (fun h31 => ?_)
    · skip
      exact absurd h31 (by decide)
    · skip
      refine v_iconst (nI 0) dX6_person_34 (by decide +kernel) ?_
      refine v_iret rfl dX6_person_35 ⟨congrArg (fun z => some (Value.int z)) ?_, congrArg (φ shp) ?_⟩
      · rfl
      · rfl

set_option maxHeartbeats 4000000 in
set_option maxRecDepth 100000 in
/-- person_2 -/
theorem c_X6_person_2 (lu : Launch) (Dg : va_G) (E : Nat → ClassId) (N : Nat) (G : Nat → Nat) (shp : Nat → (Nat → Int32) → va_E) (σ : Nat → Nat → Int32) {b : Nat} (hM : ModS E G shp N b) (f0 f1 f2 f3 f4 f5 f6 : Nat → Int32) {T : Nat} (hI : Inv T f1) {p : Nat} (hp : p < tn (f1 2)) (y : Int32) (hy : ¬ Rg 9 y)  : CS lu yX6_person wsX6_person { frames := 2, cells := 0, slots := 0, locals := 45 } Dg E N G shp (mk7 σ b f0 f1 f2 f3 f4 f5 f6) [.ref (G b), .int (nI p), .int y] (some (.int (nI 0))) (mk7 σ b (upd f0 0 (nI 2)) f1 f2 f3 f4 f5 f6) := by
  refine CS.of (cc := cX6_person) (maxL := 3) (ret := (some .int)) (by decide) rfl (Nat.le_of_ble_eq_true rfl) ?_
  intro p_ e_ s_ m_ args_ below_ meth_ c_
  refine v_eq (pc' := 0) (st' := []) rfl rfl ?_
  refine v_loc [0, 1, 2] [(0, .ref (G b)), (1, .int (nI p)), (2, .int y)] rfl ?_
  refine v_aload_n 0 dX6_person_0 rfl rfl ?_
  refine v_aload_n 0 dX6_person_1 rfl rfl ?_
  refine v_iload_n 1 dX6_person_2 rfl rfl ?_
  refine u_callVv [.int (nI p)] [.ref (G b)] 1 (c_X6_isPerson lu Dg E N G shp σ hM f0 f1 f2 f3 f4 f5 f6 hI.np (by have := hI.np30; omega) (nI p)) (ci := 6) (C := RX6) (T := TX6) (NF := 13) hM.n hM.s rfl gX6_person_X6_isPerson rfl rfl rfl (by decide +kernel) rfl ⟨Nat.le_of_ble_eq_true rfl, Nat.le_of_ble_eq_true rfl⟩ ⟨Nat.le_of_ble_eq_true rfl, Nat.le_of_ble_eq_true rfl⟩ (Nat.le_of_ble_eq_true rfl) rfl dX6_person_3 ?_
  refine v_if_neB 13 dX6_person_6 rfl (fun h6 => ?_) (fun h6 => ?_)
  · skip
    refine v_iload_n 2 dX6_person_13 rfl rfl ?_
    refine v_iconst (nI 0) dX6_person_14 (by decide +kernel) ?_
    refine v_bipush (nI 8) dX6_person_15 (by decide +kernel) ?_
    refine u_callSv [.int y, .int (nI 0), .int (nI 8)] [.ref (G b)] 3 (c_X6_in lu Dg E N G shp (mk7 σ b f0 f1 f2 f3 f4 f5 f6) (y) (nI 0) (nI 8)) gX6_person_X6_in rfl rfl rfl (by decide +kernel) rfl ⟨Nat.le_of_ble_eq_true rfl, Nat.le_of_ble_eq_true rfl⟩ ⟨Nat.le_of_ble_eq_true rfl, Nat.le_of_ble_eq_true rfl⟩ (Nat.le_of_ble_eq_true rfl) rfl dX6_person_17 ?_
    refine v_if_neB 27 dX6_person_20 rfl (fun h20 => ?_) (fun h20 => ?_)
    · skip
      exact absurd ((Rg_le (n := 8) (by omega) y).mp h20) hy
    · skip
      refine v_iconst (nI 2) dX6_person_23 (by decide +kernel) ?_
      refine v_goto 28 dX6_person_24 rfl ?_
      refine u_callVv [.int (nI 2)] [] 1 (c_X6_holds lu Dg E N G shp σ hM f0 f1 f2 f3 f4 f5 f6 2 (by omega)) (ci := 6) (C := RX6) (T := TX6) (NF := 13) hM.n hM.s rfl gX6_person_X6_holds rfl rfl rfl (by decide +kernel) rfl ⟨Nat.le_of_ble_eq_true rfl, Nat.le_of_ble_eq_true rfl⟩ ⟨Nat.le_of_ble_eq_true rfl, Nat.le_of_ble_eq_true rfl⟩ (Nat.le_of_ble_eq_true rfl) rfl dX6_person_28 ?_
      refine v_if_neB 36 dX6_person_31 rfl (fun h31 => ?_) (fun h31 => ?_)
      · skip
        exact absurd h31 (by decide)
      · skip
        refine v_iconst (nI 0) dX6_person_34 (by decide +kernel) ?_
        refine v_iret rfl dX6_person_35 ⟨congrArg (fun z => some (Value.int z)) ?_, congrArg (φ shp) ?_⟩
        · rfl
        · rfl
  · skip
    exact absurd ⟨p, hp, rfl⟩ h6

set_option maxRecDepth 100000 in
theorem inX6_person_X6 : ∀ w ∈ wsX60, w ∈ wsX6_person := by decide +kernel
set_option maxHeartbeats 4000000 in
set_option maxRecDepth 100000 in
/-- person_0_0 -/
theorem c_X6_person_0_0 (lu : Launch) (Dg : va_G) (E : Nat → ClassId) (N : Nat) (G : Nat → Nat) (shp : Nat → (Nat → Int32) → va_E) (σ : Nat → Nat → Int32) {b : Nat} (hM : ModS E G shp N b) (f0 f1 f2 f3 f4 f5 f6 : Nat → Int32) {T : Nat} (hI : Inv T f1) {p : Nat} (hp : p < tn (f1 2))  : CS lu yX6_person wsX6_person { frames := 2, cells := 0, slots := 0, locals := 45 } Dg E N G shp (mk7 σ b f0 f1 f2 f3 f4 f5 f6) [.ref (G b), .int (nI p), .int (nI 0)] (some (.int (f1 (58 + 10 * p + 0)))) (mk7 σ b (upd f0 0 (nI 0)) f1 f2 f3 f4 f5 f6) := by
  refine CS.of (cc := cX6_person) (maxL := 3) (ret := (some .int)) (by decide) rfl (Nat.le_of_ble_eq_true rfl) ?_
  intro p_ e_ s_ m_ args_ below_ meth_ c_
  refine v_eq (pc' := 0) (st' := []) rfl rfl ?_
  refine v_loc [0, 1, 2] [(0, .ref (G b)), (1, .int (nI p)), (2, .int (nI 0))] rfl ?_
  have hp30 := Nat.lt_of_lt_of_le hp hI.np30
  refine v_aload_n 0 dX6_person_0 rfl rfl ?_
  refine v_aload_n 0 dX6_person_1 rfl rfl ?_
  refine v_iload_n 1 dX6_person_2 rfl rfl ?_
  refine u_callVv [.int (nI p)] [.ref (G b)] 1 (c_X6_isPerson lu Dg E N G shp σ hM f0 f1 f2 f3 f4 f5 f6 hI.np (by have := hI.np30; omega) (nI p)) (ci := 6) (C := RX6) (T := TX6) (NF := 13) hM.n hM.s rfl gX6_person_X6_isPerson rfl rfl rfl (by decide +kernel) rfl ⟨Nat.le_of_ble_eq_true rfl, Nat.le_of_ble_eq_true rfl⟩ ⟨Nat.le_of_ble_eq_true rfl, Nat.le_of_ble_eq_true rfl⟩ (Nat.le_of_ble_eq_true rfl) rfl dX6_person_3 ?_
  refine v_if_neB 13 dX6_person_6 rfl (fun h6 => ?_) (fun h6 => ?_)
  · skip
    refine v_iload_n 2 dX6_person_13 rfl rfl ?_
    refine v_iconst (nI 0) dX6_person_14 (by decide +kernel) ?_
    refine v_bipush (nI 8) dX6_person_15 (by decide +kernel) ?_
    refine u_callSv [.int (nI 0), .int (nI 0), .int (nI 8)] [.ref (G b)] 3 (c_X6_in lu Dg E N G shp (mk7 σ b f0 f1 f2 f3 f4 f5 f6) (nI 0) (nI 0) (nI 8)) gX6_person_X6_in rfl rfl rfl (by decide +kernel) rfl ⟨Nat.le_of_ble_eq_true rfl, Nat.le_of_ble_eq_true rfl⟩ ⟨Nat.le_of_ble_eq_true rfl, Nat.le_of_ble_eq_true rfl⟩ (Nat.le_of_ble_eq_true rfl) rfl dX6_person_17 ?_
    refine v_if_neB 27 dX6_person_20 rfl (fun h20 => ?_) (fun h20 => ?_)
    · skip
      refine v_iconst (nI 0) dX6_person_27 (by decide +kernel) ?_
      refine u_callVv [.int (nI 0)] [] 1 (c_X6_holds lu Dg E N G shp σ hM f0 f1 f2 f3 f4 f5 f6 0 (by omega)) (ci := 6) (C := RX6) (T := TX6) (NF := 13) hM.n hM.s rfl gX6_person_X6_holds rfl rfl rfl (by decide +kernel) rfl ⟨Nat.le_of_ble_eq_true rfl, Nat.le_of_ble_eq_true rfl⟩ ⟨Nat.le_of_ble_eq_true rfl, Nat.le_of_ble_eq_true rfl⟩ (Nat.le_of_ble_eq_true rfl) rfl dX6_person_28 ?_
      refine v_if_neB 36 dX6_person_31 rfl (fun h31 => ?_) (fun h31 => ?_)
      · skip
        refine v_iload_n 2 dX6_person_36 rfl rfl ?_
        refine v_tableIn (off := 27) 64 dX6_person_37 (by decide +kernel) (by decide +kernel) (by decide +kernel) rfl ?_
        refine v_aload_n 0 dX6_person_64 rfl rfl ?_
        refine u_getr (k := 1) (C := RX6) (T := TX6) (NF := 13) hM.n hM.s rfl rfl inX6_person_X6 (by decide) (by decide +kernel) rfl dX6_person_65 ?_
        refine v_iload_n 1 dX6_person_68 rfl rfl ?_
        refine v_iload_n 2 dX6_person_69 rfl rfl ?_
        refine u_callSv [.int (nI p), .int (nI 0)] [.ref (G (b + 1))] 2 (c_X6_of lu Dg E N G shp (mk7 σ b (upd f0 0 (nI 0)) f1 f2 f3 f4 f5 f6) p 0) gX6_person_X6_of rfl rfl rfl (by decide +kernel) rfl ⟨Nat.le_of_ble_eq_true rfl, Nat.le_of_ble_eq_true rfl⟩ ⟨Nat.le_of_ble_eq_true rfl, Nat.le_of_ble_eq_true rfl⟩ (Nat.le_of_ble_eq_true rfl) rfl dX6_person_70 ?_
        refine m_ld1 (58 + 10 * p + 0) hM (rfl) (by omega) dX6_person_73 ?_
        refine v_iret rfl dX6_person_74 ⟨congrArg (fun z => some (Value.int z)) ?_, congrArg (φ shp) ?_⟩
        · rfl
        · rfl
      · skip
        exact absurd rfl h31
    · skip
      exact absurd (by decide +kernel) h20
  · skip
    exact absurd ⟨p, hp, rfl⟩ h6

set_option maxHeartbeats 4000000 in
set_option maxRecDepth 100000 in
/-- person_0_1 -/
theorem c_X6_person_0_1 (lu : Launch) (Dg : va_G) (E : Nat → ClassId) (N : Nat) (G : Nat → Nat) (shp : Nat → (Nat → Int32) → va_E) (σ : Nat → Nat → Int32) {b : Nat} (hM : ModS E G shp N b) (f0 f1 f2 f3 f4 f5 f6 : Nat → Int32) {T : Nat} (hI : Inv T f1) {p : Nat} (hp : p < tn (f1 2))  : CS lu yX6_person wsX6_person { frames := 2, cells := 0, slots := 0, locals := 45 } Dg E N G shp (mk7 σ b f0 f1 f2 f3 f4 f5 f6) [.ref (G b), .int (nI p), .int (nI 1)] (some (.int (f1 (58 + 10 * p + 1)))) (mk7 σ b (upd f0 0 (nI 0)) f1 f2 f3 f4 f5 f6) := by
  refine CS.of (cc := cX6_person) (maxL := 3) (ret := (some .int)) (by decide) rfl (Nat.le_of_ble_eq_true rfl) ?_
  intro p_ e_ s_ m_ args_ below_ meth_ c_
  refine v_eq (pc' := 0) (st' := []) rfl rfl ?_
  refine v_loc [0, 1, 2] [(0, .ref (G b)), (1, .int (nI p)), (2, .int (nI 1))] rfl ?_
  have hp30 := Nat.lt_of_lt_of_le hp hI.np30
  refine v_aload_n 0 dX6_person_0 rfl rfl ?_
  refine v_aload_n 0 dX6_person_1 rfl rfl ?_
  refine v_iload_n 1 dX6_person_2 rfl rfl ?_
  refine u_callVv [.int (nI p)] [.ref (G b)] 1 (c_X6_isPerson lu Dg E N G shp σ hM f0 f1 f2 f3 f4 f5 f6 hI.np (by have := hI.np30; omega) (nI p)) (ci := 6) (C := RX6) (T := TX6) (NF := 13) hM.n hM.s rfl gX6_person_X6_isPerson rfl rfl rfl (by decide +kernel) rfl ⟨Nat.le_of_ble_eq_true rfl, Nat.le_of_ble_eq_true rfl⟩ ⟨Nat.le_of_ble_eq_true rfl, Nat.le_of_ble_eq_true rfl⟩ (Nat.le_of_ble_eq_true rfl) rfl dX6_person_3 ?_
  refine v_if_neB 13 dX6_person_6 rfl (fun h6 => ?_) (fun h6 => ?_)
  · skip
    refine v_iload_n 2 dX6_person_13 rfl rfl ?_
    refine v_iconst (nI 0) dX6_person_14 (by decide +kernel) ?_
    refine v_bipush (nI 8) dX6_person_15 (by decide +kernel) ?_
    refine u_callSv [.int (nI 1), .int (nI 0), .int (nI 8)] [.ref (G b)] 3 (c_X6_in lu Dg E N G shp (mk7 σ b f0 f1 f2 f3 f4 f5 f6) (nI 1) (nI 0) (nI 8)) gX6_person_X6_in rfl rfl rfl (by decide +kernel) rfl ⟨Nat.le_of_ble_eq_true rfl, Nat.le_of_ble_eq_true rfl⟩ ⟨Nat.le_of_ble_eq_true rfl, Nat.le_of_ble_eq_true rfl⟩ (Nat.le_of_ble_eq_true rfl) rfl dX6_person_17 ?_
    refine v_if_neB 27 dX6_person_20 rfl (fun h20 => ?_) (fun h20 => ?_)
    · skip
      refine v_iconst (nI 0) dX6_person_27 (by decide +kernel) ?_
      refine u_callVv [.int (nI 0)] [] 1 (c_X6_holds lu Dg E N G shp σ hM f0 f1 f2 f3 f4 f5 f6 0 (by omega)) (ci := 6) (C := RX6) (T := TX6) (NF := 13) hM.n hM.s rfl gX6_person_X6_holds rfl rfl rfl (by decide +kernel) rfl ⟨Nat.le_of_ble_eq_true rfl, Nat.le_of_ble_eq_true rfl⟩ ⟨Nat.le_of_ble_eq_true rfl, Nat.le_of_ble_eq_true rfl⟩ (Nat.le_of_ble_eq_true rfl) rfl dX6_person_28 ?_
      refine v_if_neB 36 dX6_person_31 rfl (fun h31 => ?_) (fun h31 => ?_)
      · skip
        refine v_iload_n 2 dX6_person_36 rfl rfl ?_
        refine v_tableIn (off := 27) 64 dX6_person_37 (by decide +kernel) (by decide +kernel) (by decide +kernel) rfl ?_
        refine v_aload_n 0 dX6_person_64 rfl rfl ?_
        refine u_getr (k := 1) (C := RX6) (T := TX6) (NF := 13) hM.n hM.s rfl rfl inX6_person_X6 (by decide) (by decide +kernel) rfl dX6_person_65 ?_
        refine v_iload_n 1 dX6_person_68 rfl rfl ?_
        refine v_iload_n 2 dX6_person_69 rfl rfl ?_
        refine u_callSv [.int (nI p), .int (nI 1)] [.ref (G (b + 1))] 2 (c_X6_of lu Dg E N G shp (mk7 σ b (upd f0 0 (nI 0)) f1 f2 f3 f4 f5 f6) p 1) gX6_person_X6_of rfl rfl rfl (by decide +kernel) rfl ⟨Nat.le_of_ble_eq_true rfl, Nat.le_of_ble_eq_true rfl⟩ ⟨Nat.le_of_ble_eq_true rfl, Nat.le_of_ble_eq_true rfl⟩ (Nat.le_of_ble_eq_true rfl) rfl dX6_person_70 ?_
        refine m_ld1 (58 + 10 * p + 1) hM (rfl) (by omega) dX6_person_73 ?_
        refine v_iret rfl dX6_person_74 ⟨congrArg (fun z => some (Value.int z)) ?_, congrArg (φ shp) ?_⟩
        · rfl
        · rfl
      · skip
        exact absurd rfl h31
    · skip
      exact absurd (by decide +kernel) h20
  · skip
    exact absurd ⟨p, hp, rfl⟩ h6

set_option maxHeartbeats 4000000 in
set_option maxRecDepth 100000 in
/-- person_0_2s -/
theorem c_X6_person_0_2s (lu : Launch) (Dg : va_G) (E : Nat → ClassId) (N : Nat) (G : Nat → Nat) (shp : Nat → (Nat → Int32) → va_E) (σ : Nat → Nat → Int32) {b : Nat} (hM : ModS E G shp N b) (f0 f1 f2 f3 f4 f5 f6 : Nat → Int32) {T : Nat} (hI : Inv T f1) {p : Nat} (hp : p < tn (f1 2)) (hs : f1 (58 + 10 * p + 5) = 0)  : CS lu yX6_person wsX6_person { frames := 2, cells := 0, slots := 0, locals := 45 } Dg E N G shp (mk7 σ b f0 f1 f2 f3 f4 f5 f6) [.ref (G b), .int (nI p), .int (nI 2)] (some (.int (nI (plc f1 p)))) (mk7 σ b (upd f0 0 (nI 0)) f1 f2 f3 f4 f5 f6) := by
  refine CS.of (cc := cX6_person) (maxL := 3) (ret := (some .int)) (by decide) rfl (Nat.le_of_ble_eq_true rfl) ?_
  intro p_ e_ s_ m_ args_ below_ meth_ c_
  refine v_eq (pc' := 0) (st' := []) rfl rfl ?_
  refine v_loc [0, 1, 2] [(0, .ref (G b)), (1, .int (nI p)), (2, .int (nI 2))] rfl ?_
  have hp30 := Nat.lt_of_lt_of_le hp hI.np30
  have hq := hI.plcs hp hs
  refine v_aload_n 0 dX6_person_0 rfl rfl ?_
  refine v_aload_n 0 dX6_person_1 rfl rfl ?_
  refine v_iload_n 1 dX6_person_2 rfl rfl ?_
  refine u_callVv [.int (nI p)] [.ref (G b)] 1 (c_X6_isPerson lu Dg E N G shp σ hM f0 f1 f2 f3 f4 f5 f6 hI.np (by have := hI.np30; omega) (nI p)) (ci := 6) (C := RX6) (T := TX6) (NF := 13) hM.n hM.s rfl gX6_person_X6_isPerson rfl rfl rfl (by decide +kernel) rfl ⟨Nat.le_of_ble_eq_true rfl, Nat.le_of_ble_eq_true rfl⟩ ⟨Nat.le_of_ble_eq_true rfl, Nat.le_of_ble_eq_true rfl⟩ (Nat.le_of_ble_eq_true rfl) rfl dX6_person_3 ?_
  refine v_if_neB 13 dX6_person_6 rfl (fun h6 => ?_) (fun h6 => ?_)
  · skip
    refine v_iload_n 2 dX6_person_13 rfl rfl ?_
    refine v_iconst (nI 0) dX6_person_14 (by decide +kernel) ?_
    refine v_bipush (nI 8) dX6_person_15 (by decide +kernel) ?_
    refine u_callSv [.int (nI 2), .int (nI 0), .int (nI 8)] [.ref (G b)] 3 (c_X6_in lu Dg E N G shp (mk7 σ b f0 f1 f2 f3 f4 f5 f6) (nI 2) (nI 0) (nI 8)) gX6_person_X6_in rfl rfl rfl (by decide +kernel) rfl ⟨Nat.le_of_ble_eq_true rfl, Nat.le_of_ble_eq_true rfl⟩ ⟨Nat.le_of_ble_eq_true rfl, Nat.le_of_ble_eq_true rfl⟩ (Nat.le_of_ble_eq_true rfl) rfl dX6_person_17 ?_
    refine v_if_neB 27 dX6_person_20 rfl (fun h20 => ?_) (fun h20 => ?_)
    · skip
      refine v_iconst (nI 0) dX6_person_27 (by decide +kernel) ?_
      refine u_callVv [.int (nI 0)] [] 1 (c_X6_holds lu Dg E N G shp σ hM f0 f1 f2 f3 f4 f5 f6 0 (by omega)) (ci := 6) (C := RX6) (T := TX6) (NF := 13) hM.n hM.s rfl gX6_person_X6_holds rfl rfl rfl (by decide +kernel) rfl ⟨Nat.le_of_ble_eq_true rfl, Nat.le_of_ble_eq_true rfl⟩ ⟨Nat.le_of_ble_eq_true rfl, Nat.le_of_ble_eq_true rfl⟩ (Nat.le_of_ble_eq_true rfl) rfl dX6_person_28 ?_
      refine v_if_neB 36 dX6_person_31 rfl (fun h31 => ?_) (fun h31 => ?_)
      · skip
        refine v_iload_n 2 dX6_person_36 rfl rfl ?_
        refine v_tableIn (off := 38) 75 dX6_person_37 (by decide +kernel) (by decide +kernel) (by decide +kernel) rfl ?_
        refine v_aload_n 0 dX6_person_75 rfl rfl ?_
        refine v_iload_n 1 dX6_person_76 rfl rfl ?_
        refine u_callVv [.int (nI p)] [] 1 ((c_X6_placeOf lu Dg E N G shp σ hM (upd f0 0 (nI 0)) f1 f2 f3 f4 f5 f6 (p := p) (by omega) (l := liN f1 p) (by have := hI.nl3; omega) hq.2.1 (hI.len hq.1) (hI.len12 hq.1)).to (v' := some (.int (nI (plc f1 p)))) (congrArg (fun z => some (Value.int z)) hq.2.2.2.2) rfl) (ci := 6) (C := RX6) (T := TX6) (NF := 13) hM.n hM.s rfl gX6_person_X6_placeOf rfl rfl rfl (by decide +kernel) rfl ⟨Nat.le_of_ble_eq_true rfl, Nat.le_of_ble_eq_true rfl⟩ ⟨Nat.le_of_ble_eq_true rfl, Nat.le_of_ble_eq_true rfl⟩ (Nat.le_of_ble_eq_true rfl) rfl dX6_person_77 ?_
        refine v_iret rfl dX6_person_80 ⟨congrArg (fun z => some (Value.int z)) ?_, congrArg (φ shp) ?_⟩
        · rfl
        · rfl
      · skip
        exact absurd rfl h31
    · skip
      exact absurd (by decide +kernel) h20
  · skip
    exact absurd ⟨p, hp, rfl⟩ h6

set_option maxHeartbeats 4000000 in
set_option maxRecDepth 100000 in
/-- person_0_2n -/
theorem c_X6_person_0_2n (lu : Launch) (Dg : va_G) (E : Nat → ClassId) (N : Nat) (G : Nat → Nat) (shp : Nat → (Nat → Int32) → va_E) (σ : Nat → Nat → Int32) {b : Nat} (hM : ModS E G shp N b) (f0 f1 f2 f3 f4 f5 f6 : Nat → Int32) {T : Nat} (hI : Inv T f1) {p : Nat} (hp : p < tn (f1 2)) (hs : ¬ f1 (58 + 10 * p + 5) = 0)  : CS lu yX6_person wsX6_person { frames := 2, cells := 0, slots := 0, locals := 45 } Dg E N G shp (mk7 σ b f0 f1 f2 f3 f4 f5 f6) [.ref (G b), .int (nI p), .int (nI 2)] (some (.int (-1))) (mk7 σ b (upd f0 0 (nI 0)) f1 f2 f3 f4 f5 f6) := by
  refine CS.of (cc := cX6_person) (maxL := 3) (ret := (some .int)) (by decide) rfl (Nat.le_of_ble_eq_true rfl) ?_
  intro p_ e_ s_ m_ args_ below_ meth_ c_
  refine v_eq (pc' := 0) (st' := []) rfl rfl ?_
  refine v_loc [0, 1, 2] [(0, .ref (G b)), (1, .int (nI p)), (2, .int (nI 2))] rfl ?_
  have hp30 := Nat.lt_of_lt_of_le hp hI.np30
  refine v_aload_n 0 dX6_person_0 rfl rfl ?_
  refine v_aload_n 0 dX6_person_1 rfl rfl ?_
  refine v_iload_n 1 dX6_person_2 rfl rfl ?_
  refine u_callVv [.int (nI p)] [.ref (G b)] 1 (c_X6_isPerson lu Dg E N G shp σ hM f0 f1 f2 f3 f4 f5 f6 hI.np (by have := hI.np30; omega) (nI p)) (ci := 6) (C := RX6) (T := TX6) (NF := 13) hM.n hM.s rfl gX6_person_X6_isPerson rfl rfl rfl (by decide +kernel) rfl ⟨Nat.le_of_ble_eq_true rfl, Nat.le_of_ble_eq_true rfl⟩ ⟨Nat.le_of_ble_eq_true rfl, Nat.le_of_ble_eq_true rfl⟩ (Nat.le_of_ble_eq_true rfl) rfl dX6_person_3 ?_
  refine v_if_neB 13 dX6_person_6 rfl (fun h6 => ?_) (fun h6 => ?_)
  · skip
    refine v_iload_n 2 dX6_person_13 rfl rfl ?_
    refine v_iconst (nI 0) dX6_person_14 (by decide +kernel) ?_
    refine v_bipush (nI 8) dX6_person_15 (by decide +kernel) ?_
    refine u_callSv [.int (nI 2), .int (nI 0), .int (nI 8)] [.ref (G b)] 3 (c_X6_in lu Dg E N G shp (mk7 σ b f0 f1 f2 f3 f4 f5 f6) (nI 2) (nI 0) (nI 8)) gX6_person_X6_in rfl rfl rfl (by decide +kernel) rfl ⟨Nat.le_of_ble_eq_true rfl, Nat.le_of_ble_eq_true rfl⟩ ⟨Nat.le_of_ble_eq_true rfl, Nat.le_of_ble_eq_true rfl⟩ (Nat.le_of_ble_eq_true rfl) rfl dX6_person_17 ?_
    refine v_if_neB 27 dX6_person_20 rfl (fun h20 => ?_) (fun h20 => ?_)
    · skip
      refine v_iconst (nI 0) dX6_person_27 (by decide +kernel) ?_
      refine u_callVv [.int (nI 0)] [] 1 (c_X6_holds lu Dg E N G shp σ hM f0 f1 f2 f3 f4 f5 f6 0 (by omega)) (ci := 6) (C := RX6) (T := TX6) (NF := 13) hM.n hM.s rfl gX6_person_X6_holds rfl rfl rfl (by decide +kernel) rfl ⟨Nat.le_of_ble_eq_true rfl, Nat.le_of_ble_eq_true rfl⟩ ⟨Nat.le_of_ble_eq_true rfl, Nat.le_of_ble_eq_true rfl⟩ (Nat.le_of_ble_eq_true rfl) rfl dX6_person_28 ?_
      refine v_if_neB 36 dX6_person_31 rfl (fun h31 => ?_) (fun h31 => ?_)
      · skip
        refine v_iload_n 2 dX6_person_36 rfl rfl ?_
        refine v_tableIn (off := 38) 75 dX6_person_37 (by decide +kernel) (by decide +kernel) (by decide +kernel) rfl ?_
        refine v_aload_n 0 dX6_person_75 rfl rfl ?_
        refine v_iload_n 1 dX6_person_76 rfl rfl ?_
        refine u_callVv [.int (nI p)] [] 1 (c_X6_placeOf_n lu Dg E N G shp σ hM (upd f0 0 (nI 0)) f1 f2 f3 f4 f5 f6 (p := p) hp30 (hI.ns hp hs)) (ci := 6) (C := RX6) (T := TX6) (NF := 13) hM.n hM.s rfl gX6_person_X6_placeOf rfl rfl rfl (by decide +kernel) rfl ⟨Nat.le_of_ble_eq_true rfl, Nat.le_of_ble_eq_true rfl⟩ ⟨Nat.le_of_ble_eq_true rfl, Nat.le_of_ble_eq_true rfl⟩ (Nat.le_of_ble_eq_true rfl) rfl dX6_person_77 ?_
        refine v_iret rfl dX6_person_80 ⟨congrArg (fun z => some (Value.int z)) ?_, congrArg (φ shp) ?_⟩
        · rfl
        · rfl
      · skip
        exact absurd rfl h31
    · skip
      exact absurd (by decide +kernel) h20
  · skip
    exact absurd ⟨p, hp, rfl⟩ h6

set_option maxHeartbeats 4000000 in
set_option maxRecDepth 100000 in
/-- person_0_3 -/
theorem c_X6_person_0_3 (lu : Launch) (Dg : va_G) (E : Nat → ClassId) (N : Nat) (G : Nat → Nat) (shp : Nat → (Nat → Int32) → va_E) (σ : Nat → Nat → Int32) {b : Nat} (hM : ModS E G shp N b) (f0 f1 f2 f3 f4 f5 f6 : Nat → Int32) {T : Nat} (hI : Inv T f1) {p : Nat} (hp : p < tn (f1 2))  : CS lu yX6_person wsX6_person { frames := 2, cells := 0, slots := 0, locals := 45 } Dg E N G shp (mk7 σ b f0 f1 f2 f3 f4 f5 f6) [.ref (G b), .int (nI p), .int (nI 3)] (some (.int (f1 (58 + 10 * p + 2)))) (mk7 σ b (upd f0 0 (nI 0)) f1 f2 f3 f4 f5 f6) := by
  refine CS.of (cc := cX6_person) (maxL := 3) (ret := (some .int)) (by decide) rfl (Nat.le_of_ble_eq_true rfl) ?_
  intro p_ e_ s_ m_ args_ below_ meth_ c_
  refine v_eq (pc' := 0) (st' := []) rfl rfl ?_
  refine v_loc [0, 1, 2] [(0, .ref (G b)), (1, .int (nI p)), (2, .int (nI 3))] rfl ?_
  have hp30 := Nat.lt_of_lt_of_le hp hI.np30
  refine v_aload_n 0 dX6_person_0 rfl rfl ?_
  refine v_aload_n 0 dX6_person_1 rfl rfl ?_
  refine v_iload_n 1 dX6_person_2 rfl rfl ?_
  refine u_callVv [.int (nI p)] [.ref (G b)] 1 (c_X6_isPerson lu Dg E N G shp σ hM f0 f1 f2 f3 f4 f5 f6 hI.np (by have := hI.np30; omega) (nI p)) (ci := 6) (C := RX6) (T := TX6) (NF := 13) hM.n hM.s rfl gX6_person_X6_isPerson rfl rfl rfl (by decide +kernel) rfl ⟨Nat.le_of_ble_eq_true rfl, Nat.le_of_ble_eq_true rfl⟩ ⟨Nat.le_of_ble_eq_true rfl, Nat.le_of_ble_eq_true rfl⟩ (Nat.le_of_ble_eq_true rfl) rfl dX6_person_3 ?_
  refine v_if_neB 13 dX6_person_6 rfl (fun h6 => ?_) (fun h6 => ?_)
  · skip
    refine v_iload_n 2 dX6_person_13 rfl rfl ?_
    refine v_iconst (nI 0) dX6_person_14 (by decide +kernel) ?_
    refine v_bipush (nI 8) dX6_person_15 (by decide +kernel) ?_
    refine u_callSv [.int (nI 3), .int (nI 0), .int (nI 8)] [.ref (G b)] 3 (c_X6_in lu Dg E N G shp (mk7 σ b f0 f1 f2 f3 f4 f5 f6) (nI 3) (nI 0) (nI 8)) gX6_person_X6_in rfl rfl rfl (by decide +kernel) rfl ⟨Nat.le_of_ble_eq_true rfl, Nat.le_of_ble_eq_true rfl⟩ ⟨Nat.le_of_ble_eq_true rfl, Nat.le_of_ble_eq_true rfl⟩ (Nat.le_of_ble_eq_true rfl) rfl dX6_person_17 ?_
    refine v_if_neB 27 dX6_person_20 rfl (fun h20 => ?_) (fun h20 => ?_)
    · skip
      refine v_iconst (nI 0) dX6_person_27 (by decide +kernel) ?_
      refine u_callVv [.int (nI 0)] [] 1 (c_X6_holds lu Dg E N G shp σ hM f0 f1 f2 f3 f4 f5 f6 0 (by omega)) (ci := 6) (C := RX6) (T := TX6) (NF := 13) hM.n hM.s rfl gX6_person_X6_holds rfl rfl rfl (by decide +kernel) rfl ⟨Nat.le_of_ble_eq_true rfl, Nat.le_of_ble_eq_true rfl⟩ ⟨Nat.le_of_ble_eq_true rfl, Nat.le_of_ble_eq_true rfl⟩ (Nat.le_of_ble_eq_true rfl) rfl dX6_person_28 ?_
      refine v_if_neB 36 dX6_person_31 rfl (fun h31 => ?_) (fun h31 => ?_)
      · skip
        refine v_iload_n 2 dX6_person_36 rfl rfl ?_
        refine v_tableOut 81 dX6_person_37 (by decide +kernel) rfl ?_
        refine v_aload_n 0 dX6_person_81 rfl rfl ?_
        refine u_getr (k := 1) (C := RX6) (T := TX6) (NF := 13) hM.n hM.s rfl rfl inX6_person_X6 (by decide) (by decide +kernel) rfl dX6_person_82 ?_
        refine v_iload_n 1 dX6_person_85 rfl rfl ?_
        refine v_iload_n 2 dX6_person_86 rfl rfl ?_
        refine v_iconst (nI 1) dX6_person_87 (by decide +kernel) ?_
        refine v_isubN (by omega) dX6_person_88 ?_
        refine v_topi (nI 2) (rfl) ?_
        refine u_callSv [.int (nI p), .int (nI 2)] [.ref (G (b + 1))] 2 (c_X6_of lu Dg E N G shp (mk7 σ b (upd f0 0 (nI 0)) f1 f2 f3 f4 f5 f6) p 2) gX6_person_X6_of rfl rfl rfl (by decide +kernel) rfl ⟨Nat.le_of_ble_eq_true rfl, Nat.le_of_ble_eq_true rfl⟩ ⟨Nat.le_of_ble_eq_true rfl, Nat.le_of_ble_eq_true rfl⟩ (Nat.le_of_ble_eq_true rfl) rfl dX6_person_89 ?_
        refine m_ld1 (58 + 10 * p + 2) hM (rfl) (by omega) dX6_person_92 ?_
        refine v_iret rfl dX6_person_93 ⟨congrArg (fun z => some (Value.int z)) ?_, congrArg (φ shp) ?_⟩
        · rfl
        · rfl
      · skip
        exact absurd rfl h31
    · skip
      exact absurd (by decide +kernel) h20
  · skip
    exact absurd ⟨p, hp, rfl⟩ h6

set_option maxHeartbeats 4000000 in
set_option maxRecDepth 100000 in
/-- person_0_4 -/
theorem c_X6_person_0_4 (lu : Launch) (Dg : va_G) (E : Nat → ClassId) (N : Nat) (G : Nat → Nat) (shp : Nat → (Nat → Int32) → va_E) (σ : Nat → Nat → Int32) {b : Nat} (hM : ModS E G shp N b) (f0 f1 f2 f3 f4 f5 f6 : Nat → Int32) {T : Nat} (hI : Inv T f1) {p : Nat} (hp : p < tn (f1 2))  : CS lu yX6_person wsX6_person { frames := 2, cells := 0, slots := 0, locals := 45 } Dg E N G shp (mk7 σ b f0 f1 f2 f3 f4 f5 f6) [.ref (G b), .int (nI p), .int (nI 4)] (some (.int (f1 (58 + 10 * p + 3)))) (mk7 σ b (upd f0 0 (nI 0)) f1 f2 f3 f4 f5 f6) := by
  refine CS.of (cc := cX6_person) (maxL := 3) (ret := (some .int)) (by decide) rfl (Nat.le_of_ble_eq_true rfl) ?_
  intro p_ e_ s_ m_ args_ below_ meth_ c_
  refine v_eq (pc' := 0) (st' := []) rfl rfl ?_
  refine v_loc [0, 1, 2] [(0, .ref (G b)), (1, .int (nI p)), (2, .int (nI 4))] rfl ?_
  have hp30 := Nat.lt_of_lt_of_le hp hI.np30
  refine v_aload_n 0 dX6_person_0 rfl rfl ?_
  refine v_aload_n 0 dX6_person_1 rfl rfl ?_
  refine v_iload_n 1 dX6_person_2 rfl rfl ?_
  refine u_callVv [.int (nI p)] [.ref (G b)] 1 (c_X6_isPerson lu Dg E N G shp σ hM f0 f1 f2 f3 f4 f5 f6 hI.np (by have := hI.np30; omega) (nI p)) (ci := 6) (C := RX6) (T := TX6) (NF := 13) hM.n hM.s rfl gX6_person_X6_isPerson rfl rfl rfl (by decide +kernel) rfl ⟨Nat.le_of_ble_eq_true rfl, Nat.le_of_ble_eq_true rfl⟩ ⟨Nat.le_of_ble_eq_true rfl, Nat.le_of_ble_eq_true rfl⟩ (Nat.le_of_ble_eq_true rfl) rfl dX6_person_3 ?_
  refine v_if_neB 13 dX6_person_6 rfl (fun h6 => ?_) (fun h6 => ?_)
  · skip
    refine v_iload_n 2 dX6_person_13 rfl rfl ?_
    refine v_iconst (nI 0) dX6_person_14 (by decide +kernel) ?_
    refine v_bipush (nI 8) dX6_person_15 (by decide +kernel) ?_
    refine u_callSv [.int (nI 4), .int (nI 0), .int (nI 8)] [.ref (G b)] 3 (c_X6_in lu Dg E N G shp (mk7 σ b f0 f1 f2 f3 f4 f5 f6) (nI 4) (nI 0) (nI 8)) gX6_person_X6_in rfl rfl rfl (by decide +kernel) rfl ⟨Nat.le_of_ble_eq_true rfl, Nat.le_of_ble_eq_true rfl⟩ ⟨Nat.le_of_ble_eq_true rfl, Nat.le_of_ble_eq_true rfl⟩ (Nat.le_of_ble_eq_true rfl) rfl dX6_person_17 ?_
    refine v_if_neB 27 dX6_person_20 rfl (fun h20 => ?_) (fun h20 => ?_)
    · skip
      refine v_iconst (nI 0) dX6_person_27 (by decide +kernel) ?_
      refine u_callVv [.int (nI 0)] [] 1 (c_X6_holds lu Dg E N G shp σ hM f0 f1 f2 f3 f4 f5 f6 0 (by omega)) (ci := 6) (C := RX6) (T := TX6) (NF := 13) hM.n hM.s rfl gX6_person_X6_holds rfl rfl rfl (by decide +kernel) rfl ⟨Nat.le_of_ble_eq_true rfl, Nat.le_of_ble_eq_true rfl⟩ ⟨Nat.le_of_ble_eq_true rfl, Nat.le_of_ble_eq_true rfl⟩ (Nat.le_of_ble_eq_true rfl) rfl dX6_person_28 ?_
      refine v_if_neB 36 dX6_person_31 rfl (fun h31 => ?_) (fun h31 => ?_)
      · skip
        refine v_iload_n 2 dX6_person_36 rfl rfl ?_
        refine v_tableOut 81 dX6_person_37 (by decide +kernel) rfl ?_
        refine v_aload_n 0 dX6_person_81 rfl rfl ?_
        refine u_getr (k := 1) (C := RX6) (T := TX6) (NF := 13) hM.n hM.s rfl rfl inX6_person_X6 (by decide) (by decide +kernel) rfl dX6_person_82 ?_
        refine v_iload_n 1 dX6_person_85 rfl rfl ?_
        refine v_iload_n 2 dX6_person_86 rfl rfl ?_
        refine v_iconst (nI 1) dX6_person_87 (by decide +kernel) ?_
        refine v_isubN (by omega) dX6_person_88 ?_
        refine v_topi (nI 3) (rfl) ?_
        refine u_callSv [.int (nI p), .int (nI 3)] [.ref (G (b + 1))] 2 (c_X6_of lu Dg E N G shp (mk7 σ b (upd f0 0 (nI 0)) f1 f2 f3 f4 f5 f6) p 3) gX6_person_X6_of rfl rfl rfl (by decide +kernel) rfl ⟨Nat.le_of_ble_eq_true rfl, Nat.le_of_ble_eq_true rfl⟩ ⟨Nat.le_of_ble_eq_true rfl, Nat.le_of_ble_eq_true rfl⟩ (Nat.le_of_ble_eq_true rfl) rfl dX6_person_89 ?_
        refine m_ld1 (58 + 10 * p + 3) hM (rfl) (by omega) dX6_person_92 ?_
        refine v_iret rfl dX6_person_93 ⟨congrArg (fun z => some (Value.int z)) ?_, congrArg (φ shp) ?_⟩
        · rfl
        · rfl
      · skip
        exact absurd rfl h31
    · skip
      exact absurd (by decide +kernel) h20
  · skip
    exact absurd ⟨p, hp, rfl⟩ h6

set_option maxHeartbeats 4000000 in
set_option maxRecDepth 100000 in
/-- person_0_5 -/
theorem c_X6_person_0_5 (lu : Launch) (Dg : va_G) (E : Nat → ClassId) (N : Nat) (G : Nat → Nat) (shp : Nat → (Nat → Int32) → va_E) (σ : Nat → Nat → Int32) {b : Nat} (hM : ModS E G shp N b) (f0 f1 f2 f3 f4 f5 f6 : Nat → Int32) {T : Nat} (hI : Inv T f1) {p : Nat} (hp : p < tn (f1 2))  : CS lu yX6_person wsX6_person { frames := 2, cells := 0, slots := 0, locals := 45 } Dg E N G shp (mk7 σ b f0 f1 f2 f3 f4 f5 f6) [.ref (G b), .int (nI p), .int (nI 5)] (some (.int (f1 (58 + 10 * p + 4)))) (mk7 σ b (upd f0 0 (nI 0)) f1 f2 f3 f4 f5 f6) := by
  refine CS.of (cc := cX6_person) (maxL := 3) (ret := (some .int)) (by decide) rfl (Nat.le_of_ble_eq_true rfl) ?_
  intro p_ e_ s_ m_ args_ below_ meth_ c_
  refine v_eq (pc' := 0) (st' := []) rfl rfl ?_
  refine v_loc [0, 1, 2] [(0, .ref (G b)), (1, .int (nI p)), (2, .int (nI 5))] rfl ?_
  have hp30 := Nat.lt_of_lt_of_le hp hI.np30
  refine v_aload_n 0 dX6_person_0 rfl rfl ?_
  refine v_aload_n 0 dX6_person_1 rfl rfl ?_
  refine v_iload_n 1 dX6_person_2 rfl rfl ?_
  refine u_callVv [.int (nI p)] [.ref (G b)] 1 (c_X6_isPerson lu Dg E N G shp σ hM f0 f1 f2 f3 f4 f5 f6 hI.np (by have := hI.np30; omega) (nI p)) (ci := 6) (C := RX6) (T := TX6) (NF := 13) hM.n hM.s rfl gX6_person_X6_isPerson rfl rfl rfl (by decide +kernel) rfl ⟨Nat.le_of_ble_eq_true rfl, Nat.le_of_ble_eq_true rfl⟩ ⟨Nat.le_of_ble_eq_true rfl, Nat.le_of_ble_eq_true rfl⟩ (Nat.le_of_ble_eq_true rfl) rfl dX6_person_3 ?_
  refine v_if_neB 13 dX6_person_6 rfl (fun h6 => ?_) (fun h6 => ?_)
  · skip
    refine v_iload_n 2 dX6_person_13 rfl rfl ?_
    refine v_iconst (nI 0) dX6_person_14 (by decide +kernel) ?_
    refine v_bipush (nI 8) dX6_person_15 (by decide +kernel) ?_
    refine u_callSv [.int (nI 5), .int (nI 0), .int (nI 8)] [.ref (G b)] 3 (c_X6_in lu Dg E N G shp (mk7 σ b f0 f1 f2 f3 f4 f5 f6) (nI 5) (nI 0) (nI 8)) gX6_person_X6_in rfl rfl rfl (by decide +kernel) rfl ⟨Nat.le_of_ble_eq_true rfl, Nat.le_of_ble_eq_true rfl⟩ ⟨Nat.le_of_ble_eq_true rfl, Nat.le_of_ble_eq_true rfl⟩ (Nat.le_of_ble_eq_true rfl) rfl dX6_person_17 ?_
    refine v_if_neB 27 dX6_person_20 rfl (fun h20 => ?_) (fun h20 => ?_)
    · skip
      refine v_iconst (nI 0) dX6_person_27 (by decide +kernel) ?_
      refine u_callVv [.int (nI 0)] [] 1 (c_X6_holds lu Dg E N G shp σ hM f0 f1 f2 f3 f4 f5 f6 0 (by omega)) (ci := 6) (C := RX6) (T := TX6) (NF := 13) hM.n hM.s rfl gX6_person_X6_holds rfl rfl rfl (by decide +kernel) rfl ⟨Nat.le_of_ble_eq_true rfl, Nat.le_of_ble_eq_true rfl⟩ ⟨Nat.le_of_ble_eq_true rfl, Nat.le_of_ble_eq_true rfl⟩ (Nat.le_of_ble_eq_true rfl) rfl dX6_person_28 ?_
      refine v_if_neB 36 dX6_person_31 rfl (fun h31 => ?_) (fun h31 => ?_)
      · skip
        refine v_iload_n 2 dX6_person_36 rfl rfl ?_
        refine v_tableOut 81 dX6_person_37 (by decide +kernel) rfl ?_
        refine v_aload_n 0 dX6_person_81 rfl rfl ?_
        refine u_getr (k := 1) (C := RX6) (T := TX6) (NF := 13) hM.n hM.s rfl rfl inX6_person_X6 (by decide) (by decide +kernel) rfl dX6_person_82 ?_
        refine v_iload_n 1 dX6_person_85 rfl rfl ?_
        refine v_iload_n 2 dX6_person_86 rfl rfl ?_
        refine v_iconst (nI 1) dX6_person_87 (by decide +kernel) ?_
        refine v_isubN (by omega) dX6_person_88 ?_
        refine v_topi (nI 4) (rfl) ?_
        refine u_callSv [.int (nI p), .int (nI 4)] [.ref (G (b + 1))] 2 (c_X6_of lu Dg E N G shp (mk7 σ b (upd f0 0 (nI 0)) f1 f2 f3 f4 f5 f6) p 4) gX6_person_X6_of rfl rfl rfl (by decide +kernel) rfl ⟨Nat.le_of_ble_eq_true rfl, Nat.le_of_ble_eq_true rfl⟩ ⟨Nat.le_of_ble_eq_true rfl, Nat.le_of_ble_eq_true rfl⟩ (Nat.le_of_ble_eq_true rfl) rfl dX6_person_89 ?_
        refine m_ld1 (58 + 10 * p + 4) hM (rfl) (by omega) dX6_person_92 ?_
        refine v_iret rfl dX6_person_93 ⟨congrArg (fun z => some (Value.int z)) ?_, congrArg (φ shp) ?_⟩
        · rfl
        · rfl
      · skip
        exact absurd rfl h31
    · skip
      exact absurd (by decide +kernel) h20
  · skip
    exact absurd ⟨p, hp, rfl⟩ h6

set_option maxHeartbeats 4000000 in
set_option maxRecDepth 100000 in
/-- person_0_6 -/
theorem c_X6_person_0_6 (lu : Launch) (Dg : va_G) (E : Nat → ClassId) (N : Nat) (G : Nat → Nat) (shp : Nat → (Nat → Int32) → va_E) (σ : Nat → Nat → Int32) {b : Nat} (hM : ModS E G shp N b) (f0 f1 f2 f3 f4 f5 f6 : Nat → Int32) {T : Nat} (hI : Inv T f1) {p : Nat} (hp : p < tn (f1 2))  : CS lu yX6_person wsX6_person { frames := 2, cells := 0, slots := 0, locals := 45 } Dg E N G shp (mk7 σ b f0 f1 f2 f3 f4 f5 f6) [.ref (G b), .int (nI p), .int (nI 6)] (some (.int (f1 (58 + 10 * p + 5)))) (mk7 σ b (upd f0 0 (nI 0)) f1 f2 f3 f4 f5 f6) := by
  refine CS.of (cc := cX6_person) (maxL := 3) (ret := (some .int)) (by decide) rfl (Nat.le_of_ble_eq_true rfl) ?_
  intro p_ e_ s_ m_ args_ below_ meth_ c_
  refine v_eq (pc' := 0) (st' := []) rfl rfl ?_
  refine v_loc [0, 1, 2] [(0, .ref (G b)), (1, .int (nI p)), (2, .int (nI 6))] rfl ?_
  have hp30 := Nat.lt_of_lt_of_le hp hI.np30
  refine v_aload_n 0 dX6_person_0 rfl rfl ?_
  refine v_aload_n 0 dX6_person_1 rfl rfl ?_
  refine v_iload_n 1 dX6_person_2 rfl rfl ?_
  refine u_callVv [.int (nI p)] [.ref (G b)] 1 (c_X6_isPerson lu Dg E N G shp σ hM f0 f1 f2 f3 f4 f5 f6 hI.np (by have := hI.np30; omega) (nI p)) (ci := 6) (C := RX6) (T := TX6) (NF := 13) hM.n hM.s rfl gX6_person_X6_isPerson rfl rfl rfl (by decide +kernel) rfl ⟨Nat.le_of_ble_eq_true rfl, Nat.le_of_ble_eq_true rfl⟩ ⟨Nat.le_of_ble_eq_true rfl, Nat.le_of_ble_eq_true rfl⟩ (Nat.le_of_ble_eq_true rfl) rfl dX6_person_3 ?_
  refine v_if_neB 13 dX6_person_6 rfl (fun h6 => ?_) (fun h6 => ?_)
  · skip
    refine v_iload_n 2 dX6_person_13 rfl rfl ?_
    refine v_iconst (nI 0) dX6_person_14 (by decide +kernel) ?_
    refine v_bipush (nI 8) dX6_person_15 (by decide +kernel) ?_
    refine u_callSv [.int (nI 6), .int (nI 0), .int (nI 8)] [.ref (G b)] 3 (c_X6_in lu Dg E N G shp (mk7 σ b f0 f1 f2 f3 f4 f5 f6) (nI 6) (nI 0) (nI 8)) gX6_person_X6_in rfl rfl rfl (by decide +kernel) rfl ⟨Nat.le_of_ble_eq_true rfl, Nat.le_of_ble_eq_true rfl⟩ ⟨Nat.le_of_ble_eq_true rfl, Nat.le_of_ble_eq_true rfl⟩ (Nat.le_of_ble_eq_true rfl) rfl dX6_person_17 ?_
    refine v_if_neB 27 dX6_person_20 rfl (fun h20 => ?_) (fun h20 => ?_)
    · skip
      refine v_iconst (nI 0) dX6_person_27 (by decide +kernel) ?_
      refine u_callVv [.int (nI 0)] [] 1 (c_X6_holds lu Dg E N G shp σ hM f0 f1 f2 f3 f4 f5 f6 0 (by omega)) (ci := 6) (C := RX6) (T := TX6) (NF := 13) hM.n hM.s rfl gX6_person_X6_holds rfl rfl rfl (by decide +kernel) rfl ⟨Nat.le_of_ble_eq_true rfl, Nat.le_of_ble_eq_true rfl⟩ ⟨Nat.le_of_ble_eq_true rfl, Nat.le_of_ble_eq_true rfl⟩ (Nat.le_of_ble_eq_true rfl) rfl dX6_person_28 ?_
      refine v_if_neB 36 dX6_person_31 rfl (fun h31 => ?_) (fun h31 => ?_)
      · skip
        refine v_iload_n 2 dX6_person_36 rfl rfl ?_
        refine v_tableOut 81 dX6_person_37 (by decide +kernel) rfl ?_
        refine v_aload_n 0 dX6_person_81 rfl rfl ?_
        refine u_getr (k := 1) (C := RX6) (T := TX6) (NF := 13) hM.n hM.s rfl rfl inX6_person_X6 (by decide) (by decide +kernel) rfl dX6_person_82 ?_
        refine v_iload_n 1 dX6_person_85 rfl rfl ?_
        refine v_iload_n 2 dX6_person_86 rfl rfl ?_
        refine v_iconst (nI 1) dX6_person_87 (by decide +kernel) ?_
        refine v_isubN (by omega) dX6_person_88 ?_
        refine v_topi (nI 5) (rfl) ?_
        refine u_callSv [.int (nI p), .int (nI 5)] [.ref (G (b + 1))] 2 (c_X6_of lu Dg E N G shp (mk7 σ b (upd f0 0 (nI 0)) f1 f2 f3 f4 f5 f6) p 5) gX6_person_X6_of rfl rfl rfl (by decide +kernel) rfl ⟨Nat.le_of_ble_eq_true rfl, Nat.le_of_ble_eq_true rfl⟩ ⟨Nat.le_of_ble_eq_true rfl, Nat.le_of_ble_eq_true rfl⟩ (Nat.le_of_ble_eq_true rfl) rfl dX6_person_89 ?_
        refine m_ld1 (58 + 10 * p + 5) hM (rfl) (by omega) dX6_person_92 ?_
        refine v_iret rfl dX6_person_93 ⟨congrArg (fun z => some (Value.int z)) ?_, congrArg (φ shp) ?_⟩
        · rfl
        · rfl
      · skip
        exact absurd rfl h31
    · skip
      exact absurd (by decide +kernel) h20
  · skip
    exact absurd ⟨p, hp, rfl⟩ h6

set_option maxHeartbeats 4000000 in
set_option maxRecDepth 100000 in
/-- person_0_7 -/
theorem c_X6_person_0_7 (lu : Launch) (Dg : va_G) (E : Nat → ClassId) (N : Nat) (G : Nat → Nat) (shp : Nat → (Nat → Int32) → va_E) (σ : Nat → Nat → Int32) {b : Nat} (hM : ModS E G shp N b) (f0 f1 f2 f3 f4 f5 f6 : Nat → Int32) {T : Nat} (hI : Inv T f1) {p : Nat} (hp : p < tn (f1 2))  : CS lu yX6_person wsX6_person { frames := 2, cells := 0, slots := 0, locals := 45 } Dg E N G shp (mk7 σ b f0 f1 f2 f3 f4 f5 f6) [.ref (G b), .int (nI p), .int (nI 7)] (some (.int (f1 (58 + 10 * p + 6)))) (mk7 σ b (upd f0 0 (nI 0)) f1 f2 f3 f4 f5 f6) := by
  refine CS.of (cc := cX6_person) (maxL := 3) (ret := (some .int)) (by decide) rfl (Nat.le_of_ble_eq_true rfl) ?_
  intro p_ e_ s_ m_ args_ below_ meth_ c_
  refine v_eq (pc' := 0) (st' := []) rfl rfl ?_
  refine v_loc [0, 1, 2] [(0, .ref (G b)), (1, .int (nI p)), (2, .int (nI 7))] rfl ?_
  have hp30 := Nat.lt_of_lt_of_le hp hI.np30
  refine v_aload_n 0 dX6_person_0 rfl rfl ?_
  refine v_aload_n 0 dX6_person_1 rfl rfl ?_
  refine v_iload_n 1 dX6_person_2 rfl rfl ?_
  refine u_callVv [.int (nI p)] [.ref (G b)] 1 (c_X6_isPerson lu Dg E N G shp σ hM f0 f1 f2 f3 f4 f5 f6 hI.np (by have := hI.np30; omega) (nI p)) (ci := 6) (C := RX6) (T := TX6) (NF := 13) hM.n hM.s rfl gX6_person_X6_isPerson rfl rfl rfl (by decide +kernel) rfl ⟨Nat.le_of_ble_eq_true rfl, Nat.le_of_ble_eq_true rfl⟩ ⟨Nat.le_of_ble_eq_true rfl, Nat.le_of_ble_eq_true rfl⟩ (Nat.le_of_ble_eq_true rfl) rfl dX6_person_3 ?_
  refine v_if_neB 13 dX6_person_6 rfl (fun h6 => ?_) (fun h6 => ?_)
  · skip
    refine v_iload_n 2 dX6_person_13 rfl rfl ?_
    refine v_iconst (nI 0) dX6_person_14 (by decide +kernel) ?_
    refine v_bipush (nI 8) dX6_person_15 (by decide +kernel) ?_
    refine u_callSv [.int (nI 7), .int (nI 0), .int (nI 8)] [.ref (G b)] 3 (c_X6_in lu Dg E N G shp (mk7 σ b f0 f1 f2 f3 f4 f5 f6) (nI 7) (nI 0) (nI 8)) gX6_person_X6_in rfl rfl rfl (by decide +kernel) rfl ⟨Nat.le_of_ble_eq_true rfl, Nat.le_of_ble_eq_true rfl⟩ ⟨Nat.le_of_ble_eq_true rfl, Nat.le_of_ble_eq_true rfl⟩ (Nat.le_of_ble_eq_true rfl) rfl dX6_person_17 ?_
    refine v_if_neB 27 dX6_person_20 rfl (fun h20 => ?_) (fun h20 => ?_)
    · skip
      refine v_iconst (nI 0) dX6_person_27 (by decide +kernel) ?_
      refine u_callVv [.int (nI 0)] [] 1 (c_X6_holds lu Dg E N G shp σ hM f0 f1 f2 f3 f4 f5 f6 0 (by omega)) (ci := 6) (C := RX6) (T := TX6) (NF := 13) hM.n hM.s rfl gX6_person_X6_holds rfl rfl rfl (by decide +kernel) rfl ⟨Nat.le_of_ble_eq_true rfl, Nat.le_of_ble_eq_true rfl⟩ ⟨Nat.le_of_ble_eq_true rfl, Nat.le_of_ble_eq_true rfl⟩ (Nat.le_of_ble_eq_true rfl) rfl dX6_person_28 ?_
      refine v_if_neB 36 dX6_person_31 rfl (fun h31 => ?_) (fun h31 => ?_)
      · skip
        refine v_iload_n 2 dX6_person_36 rfl rfl ?_
        refine v_tableOut 81 dX6_person_37 (by decide +kernel) rfl ?_
        refine v_aload_n 0 dX6_person_81 rfl rfl ?_
        refine u_getr (k := 1) (C := RX6) (T := TX6) (NF := 13) hM.n hM.s rfl rfl inX6_person_X6 (by decide) (by decide +kernel) rfl dX6_person_82 ?_
        refine v_iload_n 1 dX6_person_85 rfl rfl ?_
        refine v_iload_n 2 dX6_person_86 rfl rfl ?_
        refine v_iconst (nI 1) dX6_person_87 (by decide +kernel) ?_
        refine v_isubN (by omega) dX6_person_88 ?_
        refine v_topi (nI 6) (rfl) ?_
        refine u_callSv [.int (nI p), .int (nI 6)] [.ref (G (b + 1))] 2 (c_X6_of lu Dg E N G shp (mk7 σ b (upd f0 0 (nI 0)) f1 f2 f3 f4 f5 f6) p 6) gX6_person_X6_of rfl rfl rfl (by decide +kernel) rfl ⟨Nat.le_of_ble_eq_true rfl, Nat.le_of_ble_eq_true rfl⟩ ⟨Nat.le_of_ble_eq_true rfl, Nat.le_of_ble_eq_true rfl⟩ (Nat.le_of_ble_eq_true rfl) rfl dX6_person_89 ?_
        refine m_ld1 (58 + 10 * p + 6) hM (rfl) (by omega) dX6_person_92 ?_
        refine v_iret rfl dX6_person_93 ⟨congrArg (fun z => some (Value.int z)) ?_, congrArg (φ shp) ?_⟩
        · rfl
        · rfl
      · skip
        exact absurd rfl h31
    · skip
      exact absurd (by decide +kernel) h20
  · skip
    exact absurd ⟨p, hp, rfl⟩ h6

set_option maxHeartbeats 4000000 in
set_option maxRecDepth 100000 in
/-- person_0_8 -/
theorem c_X6_person_0_8 (lu : Launch) (Dg : va_G) (E : Nat → ClassId) (N : Nat) (G : Nat → Nat) (shp : Nat → (Nat → Int32) → va_E) (σ : Nat → Nat → Int32) {b : Nat} (hM : ModS E G shp N b) (f0 f1 f2 f3 f4 f5 f6 : Nat → Int32) {T : Nat} (hI : Inv T f1) {p : Nat} (hp : p < tn (f1 2))  : CS lu yX6_person wsX6_person { frames := 2, cells := 0, slots := 0, locals := 45 } Dg E N G shp (mk7 σ b f0 f1 f2 f3 f4 f5 f6) [.ref (G b), .int (nI p), .int (nI 8)] (some (.int (f1 (58 + 10 * p + 7)))) (mk7 σ b (upd f0 0 (nI 0)) f1 f2 f3 f4 f5 f6) := by
  refine CS.of (cc := cX6_person) (maxL := 3) (ret := (some .int)) (by decide) rfl (Nat.le_of_ble_eq_true rfl) ?_
  intro p_ e_ s_ m_ args_ below_ meth_ c_
  refine v_eq (pc' := 0) (st' := []) rfl rfl ?_
  refine v_loc [0, 1, 2] [(0, .ref (G b)), (1, .int (nI p)), (2, .int (nI 8))] rfl ?_
  have hp30 := Nat.lt_of_lt_of_le hp hI.np30
  refine v_aload_n 0 dX6_person_0 rfl rfl ?_
  refine v_aload_n 0 dX6_person_1 rfl rfl ?_
  refine v_iload_n 1 dX6_person_2 rfl rfl ?_
  refine u_callVv [.int (nI p)] [.ref (G b)] 1 (c_X6_isPerson lu Dg E N G shp σ hM f0 f1 f2 f3 f4 f5 f6 hI.np (by have := hI.np30; omega) (nI p)) (ci := 6) (C := RX6) (T := TX6) (NF := 13) hM.n hM.s rfl gX6_person_X6_isPerson rfl rfl rfl (by decide +kernel) rfl ⟨Nat.le_of_ble_eq_true rfl, Nat.le_of_ble_eq_true rfl⟩ ⟨Nat.le_of_ble_eq_true rfl, Nat.le_of_ble_eq_true rfl⟩ (Nat.le_of_ble_eq_true rfl) rfl dX6_person_3 ?_
  refine v_if_neB 13 dX6_person_6 rfl (fun h6 => ?_) (fun h6 => ?_)
  · skip
    refine v_iload_n 2 dX6_person_13 rfl rfl ?_
    refine v_iconst (nI 0) dX6_person_14 (by decide +kernel) ?_
    refine v_bipush (nI 8) dX6_person_15 (by decide +kernel) ?_
    refine u_callSv [.int (nI 8), .int (nI 0), .int (nI 8)] [.ref (G b)] 3 (c_X6_in lu Dg E N G shp (mk7 σ b f0 f1 f2 f3 f4 f5 f6) (nI 8) (nI 0) (nI 8)) gX6_person_X6_in rfl rfl rfl (by decide +kernel) rfl ⟨Nat.le_of_ble_eq_true rfl, Nat.le_of_ble_eq_true rfl⟩ ⟨Nat.le_of_ble_eq_true rfl, Nat.le_of_ble_eq_true rfl⟩ (Nat.le_of_ble_eq_true rfl) rfl dX6_person_17 ?_
    refine v_if_neB 27 dX6_person_20 rfl (fun h20 => ?_) (fun h20 => ?_)
    · skip
      refine v_iconst (nI 0) dX6_person_27 (by decide +kernel) ?_
      refine u_callVv [.int (nI 0)] [] 1 (c_X6_holds lu Dg E N G shp σ hM f0 f1 f2 f3 f4 f5 f6 0 (by omega)) (ci := 6) (C := RX6) (T := TX6) (NF := 13) hM.n hM.s rfl gX6_person_X6_holds rfl rfl rfl (by decide +kernel) rfl ⟨Nat.le_of_ble_eq_true rfl, Nat.le_of_ble_eq_true rfl⟩ ⟨Nat.le_of_ble_eq_true rfl, Nat.le_of_ble_eq_true rfl⟩ (Nat.le_of_ble_eq_true rfl) rfl dX6_person_28 ?_
      refine v_if_neB 36 dX6_person_31 rfl (fun h31 => ?_) (fun h31 => ?_)
      · skip
        refine v_iload_n 2 dX6_person_36 rfl rfl ?_
        refine v_tableOut 81 dX6_person_37 (by decide +kernel) rfl ?_
        refine v_aload_n 0 dX6_person_81 rfl rfl ?_
        refine u_getr (k := 1) (C := RX6) (T := TX6) (NF := 13) hM.n hM.s rfl rfl inX6_person_X6 (by decide) (by decide +kernel) rfl dX6_person_82 ?_
        refine v_iload_n 1 dX6_person_85 rfl rfl ?_
        refine v_iload_n 2 dX6_person_86 rfl rfl ?_
        refine v_iconst (nI 1) dX6_person_87 (by decide +kernel) ?_
        refine v_isubN (by omega) dX6_person_88 ?_
        refine v_topi (nI 7) (rfl) ?_
        refine u_callSv [.int (nI p), .int (nI 7)] [.ref (G (b + 1))] 2 (c_X6_of lu Dg E N G shp (mk7 σ b (upd f0 0 (nI 0)) f1 f2 f3 f4 f5 f6) p 7) gX6_person_X6_of rfl rfl rfl (by decide +kernel) rfl ⟨Nat.le_of_ble_eq_true rfl, Nat.le_of_ble_eq_true rfl⟩ ⟨Nat.le_of_ble_eq_true rfl, Nat.le_of_ble_eq_true rfl⟩ (Nat.le_of_ble_eq_true rfl) rfl dX6_person_89 ?_
        refine m_ld1 (58 + 10 * p + 7) hM (rfl) (by omega) dX6_person_92 ?_
        refine v_iret rfl dX6_person_93 ⟨congrArg (fun z => some (Value.int z)) ?_, congrArg (φ shp) ?_⟩
        · rfl
        · rfl
      · skip
        exact absurd rfl h31
    · skip
      exact absurd (by decide +kernel) h20
  · skip
    exact absurd ⟨p, hp, rfl⟩ h6

set_option maxHeartbeats 4000000 in
set_option maxRecDepth 100000 in
/-- setting_1 -/
theorem c_X6_setting_1 (lu : Launch) (Dg : va_G) (E : Nat → ClassId) (N : Nat) (G : Nat → Nat) (shp : Nat → (Nat → Int32) → va_E) (σ : Nat → Nat → Int32) {b : Nat} (hM : ModS E G shp N b) (f0 f1 f2 f3 f4 f5 f6 : Nat → Int32)  (x : Int32) (hx : ¬ Rg 4 x)  : CS lu yX6_setting wsX6_setting { frames := 1, cells := 0, slots := 0, locals := 22 } Dg E N G shp (mk7 σ b f0 f1 f2 f3 f4 f5 f6) [.ref (G b), .int x] (some (.int (nI 0))) (mk7 σ b (upd f0 0 (nI 1)) f1 f2 f3 f4 f5 f6) := by
  refine CS.of (cc := cX6_setting) (maxL := 2) (ret := (some .int)) (by decide) rfl (Nat.le_of_ble_eq_true rfl) ?_
  intro p_ e_ s_ m_ args_ below_ meth_ c_
  refine v_eq (pc' := 0) (st' := []) rfl rfl ?_
  refine v_loc [0, 1] [(0, .ref (G b)), (1, .int x)] rfl ?_
  refine v_aload_n 0 dX6_setting_0 rfl rfl ?_
  refine v_iload_n 1 dX6_setting_1 rfl rfl ?_
  refine v_iconst (nI 0) dX6_setting_2 (by decide +kernel) ?_
  refine v_iconst (nI 3) dX6_setting_3 (by decide +kernel) ?_
  refine u_callSv [.int x, .int (nI 0), .int (nI 3)] [.ref (G b)] 3 (c_X6_in lu Dg E N G shp (mk7 σ b f0 f1 f2 f3 f4 f5 f6) (x) (nI 0) (nI 3)) gX6_setting_X6_in rfl rfl rfl (by decide +kernel) rfl ⟨Nat.le_of_ble_eq_true rfl, Nat.le_of_ble_eq_true rfl⟩ ⟨Nat.le_of_ble_eq_true rfl, Nat.le_of_ble_eq_true rfl⟩ (Nat.le_of_ble_eq_true rfl) rfl dX6_setting_4 ?_
  refine v_if_eqB 14 dX6_setting_7 rfl (fun h7 => ?_) (fun h7 => ?_)
  · skip
    refine v_iconst (nI 1) dX6_setting_14 (by decide +kernel) ?_
    refine u_callVv [.int (nI 1)] [] 1 (c_X6_holds lu Dg E N G shp σ hM f0 f1 f2 f3 f4 f5 f6 1 (by omega)) (ci := 6) (C := RX6) (T := TX6) (NF := 13) hM.n hM.s rfl gX6_setting_X6_holds rfl rfl rfl (by decide +kernel) rfl ⟨Nat.le_of_ble_eq_true rfl, Nat.le_of_ble_eq_true rfl⟩ ⟨Nat.le_of_ble_eq_true rfl, Nat.le_of_ble_eq_true rfl⟩ (Nat.le_of_ble_eq_true rfl) rfl dX6_setting_15 ?_
    refine v_if_eqB 33 dX6_setting_18 rfl (fun h18 => ?_) (fun h18 => ?_)
    · skip
      refine v_iconst (nI 0) dX6_setting_33 (by decide +kernel) ?_
      refine v_iret rfl dX6_setting_34 ⟨congrArg (fun z => some (Value.int z)) ?_, congrArg (φ shp) ?_⟩
      · rfl
      · rfl
    · skip
      exact absurd h18 (by decide)
  · skip
    exact absurd ((Rg_le (n := 3) (by omega) x).mp h7) hx

set_option maxRecDepth 100000 in
theorem inX6_setting_X6 : ∀ w ∈ wsX60, w ∈ wsX6_setting := by decide +kernel
set_option maxHeartbeats 4000000 in
set_option maxRecDepth 100000 in
/-- setting_0 -/
theorem c_X6_setting_0 (lu : Launch) (Dg : va_G) (E : Nat → ClassId) (N : Nat) (G : Nat → Nat) (shp : Nat → (Nat → Int32) → va_E) (σ : Nat → Nat → Int32) {b : Nat} (hM : ModS E G shp N b) (f0 f1 f2 f3 f4 f5 f6 : Nat → Int32)  {k : Nat} (hk : k < 4)  : CS lu yX6_setting wsX6_setting { frames := 1, cells := 0, slots := 0, locals := 22 } Dg E N G shp (mk7 σ b f0 f1 f2 f3 f4 f5 f6) [.ref (G b), .int (nI k)] (some (.int (f1 (6 + k)))) (mk7 σ b (upd f0 0 (nI 0)) f1 f2 f3 f4 f5 f6) := by
  refine CS.of (cc := cX6_setting) (maxL := 2) (ret := (some .int)) (by decide) rfl (Nat.le_of_ble_eq_true rfl) ?_
  intro p_ e_ s_ m_ args_ below_ meth_ c_
  refine v_eq (pc' := 0) (st' := []) rfl rfl ?_
  refine v_loc [0, 1] [(0, .ref (G b)), (1, .int (nI k))] rfl ?_
  refine v_aload_n 0 dX6_setting_0 rfl rfl ?_
  refine v_iload_n 1 dX6_setting_1 rfl rfl ?_
  refine v_iconst (nI 0) dX6_setting_2 (by decide +kernel) ?_
  refine v_iconst (nI 3) dX6_setting_3 (by decide +kernel) ?_
  refine u_callSv [.int (nI k), .int (nI 0), .int (nI 3)] [.ref (G b)] 3 (c_X6_in lu Dg E N G shp (mk7 σ b f0 f1 f2 f3 f4 f5 f6) (nI k) (nI 0) (nI 3)) gX6_setting_X6_in rfl rfl rfl (by decide +kernel) rfl ⟨Nat.le_of_ble_eq_true rfl, Nat.le_of_ble_eq_true rfl⟩ ⟨Nat.le_of_ble_eq_true rfl, Nat.le_of_ble_eq_true rfl⟩ (Nat.le_of_ble_eq_true rfl) rfl dX6_setting_4 ?_
  refine v_if_eqB 14 dX6_setting_7 rfl (fun h7 => ?_) (fun h7 => ?_)
  · skip
    exact absurd ((Rg_le (n := 3) (by omega) (nI k)).mpr ⟨k, hk, rfl⟩) h7
  · skip
    refine v_iconst (nI 0) dX6_setting_10 (by decide +kernel) ?_
    refine v_goto 15 dX6_setting_11 rfl ?_
    refine u_callVv [.int (nI 0)] [] 1 (c_X6_holds lu Dg E N G shp σ hM f0 f1 f2 f3 f4 f5 f6 0 (by omega)) (ci := 6) (C := RX6) (T := TX6) (NF := 13) hM.n hM.s rfl gX6_setting_X6_holds rfl rfl rfl (by decide +kernel) rfl ⟨Nat.le_of_ble_eq_true rfl, Nat.le_of_ble_eq_true rfl⟩ ⟨Nat.le_of_ble_eq_true rfl, Nat.le_of_ble_eq_true rfl⟩ (Nat.le_of_ble_eq_true rfl) rfl dX6_setting_15 ?_
    refine v_if_eqB 33 dX6_setting_18 rfl (fun h18 => ?_) (fun h18 => ?_)
    · skip
      exact absurd rfl h18
    · skip
      refine v_aload_n 0 dX6_setting_21 rfl rfl ?_
      refine u_getr (k := 1) (C := RX6) (T := TX6) (NF := 13) hM.n hM.s rfl rfl inX6_setting_X6 (by decide) (by decide +kernel) rfl dX6_setting_22 ?_
      refine v_bipush (nI 6) dX6_setting_25 (by decide +kernel) ?_
      refine v_iload_n 1 dX6_setting_27 rfl rfl ?_
      refine v_iaddN dX6_setting_28 ?_
      refine m_ld1 (6 + k) hM (rfl) (by omega) dX6_setting_29 ?_
      refine v_goto 34 dX6_setting_30 rfl ?_
      refine v_iret rfl dX6_setting_34 ⟨congrArg (fun z => some (Value.int z)) ?_, congrArg (φ shp) ?_⟩
      · rfl
      · rfl

set_option maxHeartbeats 4000000 in
set_option maxRecDepth 100000 in
/-- open_1 -/
theorem c_X6_open_1 (lu : Launch) (Dg : va_G) (E : Nat → ClassId) (N : Nat) (G : Nat → Nat) (shp : Nat → (Nat → Int32) → va_E) (σ : Nat → Nat → Int32) {b : Nat} (hM : ModS E G shp N b) (f0 f1 f2 f3 f4 f5 f6 : Nat → Int32)  (x : Int32) (hx : ¬ (nI 1 ≤ x ∧ x ≤ nI 20))  : CS lu yX6_open wsX6_open { frames := 1, cells := 0, slots := 0, locals := 22 } Dg E N G shp (mk7 σ b f0 f1 f2 f3 f4 f5 f6) [.ref (G b), .int x] (some (.int (nI 0))) (mk7 σ b (upd f0 0 (nI 1)) f1 f2 f3 f4 f5 f6) := by
  refine CS.of (cc := cX6_open) (maxL := 2) (ret := (some .int)) (by decide) rfl (Nat.le_of_ble_eq_true rfl) ?_
  intro p_ e_ s_ m_ args_ below_ meth_ c_
  refine v_eq (pc' := 0) (st' := []) rfl rfl ?_
  refine v_loc [0, 1] [(0, .ref (G b)), (1, .int x)] rfl ?_
  refine v_aload_n 0 dX6_open_0 rfl rfl ?_
  refine v_iload_n 1 dX6_open_1 rfl rfl ?_
  refine v_iconst (nI 1) dX6_open_2 (by decide +kernel) ?_
  refine v_bipush (nI 20) dX6_open_3 (by decide +kernel) ?_
  refine u_callSv [.int x, .int (nI 1), .int (nI 20)] [.ref (G b)] 3 (c_X6_in lu Dg E N G shp (mk7 σ b f0 f1 f2 f3 f4 f5 f6) (x) (nI 1) (nI 20)) gX6_open_X6_in rfl rfl rfl (by decide +kernel) rfl ⟨Nat.le_of_ble_eq_true rfl, Nat.le_of_ble_eq_true rfl⟩ ⟨Nat.le_of_ble_eq_true rfl, Nat.le_of_ble_eq_true rfl⟩ (Nat.le_of_ble_eq_true rfl) rfl dX6_open_5 ?_
  refine v_if_neB 15 dX6_open_8 rfl (fun h8 => ?_) (fun h8 => ?_)
  · skip
    exact absurd h8 hx
  · skip
    refine v_iconst (nI 1) dX6_open_11 (by decide +kernel) ?_
    refine v_goto 30 dX6_open_12 rfl ?_
    refine u_callVv [.int (nI 1)] [] 1 (c_X6_holds lu Dg E N G shp σ hM f0 f1 f2 f3 f4 f5 f6 1 (by omega)) (ci := 6) (C := RX6) (T := TX6) (NF := 13) hM.n hM.s rfl gX6_open_X6_holds rfl rfl rfl (by decide +kernel) rfl ⟨Nat.le_of_ble_eq_true rfl, Nat.le_of_ble_eq_true rfl⟩ ⟨Nat.le_of_ble_eq_true rfl, Nat.le_of_ble_eq_true rfl⟩ (Nat.le_of_ble_eq_true rfl) rfl dX6_open_30 ?_
    refine v_if_neB 38 dX6_open_33 rfl (fun h33 => ?_) (fun h33 => ?_)
    · skip
      exact absurd h33 (by decide)
    · skip
      refine v_iconst (nI 0) dX6_open_36 (by decide +kernel) ?_
      refine v_iret rfl dX6_open_37 ⟨congrArg (fun z => some (Value.int z)) ?_, congrArg (φ shp) ?_⟩
      · rfl
      · rfl

set_option maxRecDepth 100000 in
theorem inX6_open_X6 : ∀ w ∈ wsX60, w ∈ wsX6_open := by decide +kernel
set_option maxHeartbeats 4000000 in
set_option maxRecDepth 100000 in
/-- open_2 -/
theorem c_X6_open_2 (lu : Launch) (Dg : va_G) (E : Nat → ClassId) (N : Nat) (G : Nat → Nat) (shp : Nat → (Nat → Int32) → va_E) (σ : Nat → Nat → Int32) {b : Nat} (hM : ModS E G shp N b) (f0 f1 f2 f3 f4 f5 f6 : Nat → Int32)  (x : Int32) (hx : nI 1 ≤ x ∧ x ≤ nI 20) (hl : f1 1 = nI 3)  : CS lu yX6_open wsX6_open { frames := 1, cells := 0, slots := 0, locals := 22 } Dg E N G shp (mk7 σ b f0 f1 f2 f3 f4 f5 f6) [.ref (G b), .int x] (some (.int (nI 0))) (mk7 σ b (upd f0 0 (nI 2)) f1 f2 f3 f4 f5 f6) := by
  refine CS.of (cc := cX6_open) (maxL := 2) (ret := (some .int)) (by decide) rfl (Nat.le_of_ble_eq_true rfl) ?_
  intro p_ e_ s_ m_ args_ below_ meth_ c_
  refine v_eq (pc' := 0) (st' := []) rfl rfl ?_
  refine v_loc [0, 1] [(0, .ref (G b)), (1, .int x)] rfl ?_
  refine v_aload_n 0 dX6_open_0 rfl rfl ?_
  refine v_iload_n 1 dX6_open_1 rfl rfl ?_
  refine v_iconst (nI 1) dX6_open_2 (by decide +kernel) ?_
  refine v_bipush (nI 20) dX6_open_3 (by decide +kernel) ?_
  refine u_callSv [.int x, .int (nI 1), .int (nI 20)] [.ref (G b)] 3 (c_X6_in lu Dg E N G shp (mk7 σ b f0 f1 f2 f3 f4 f5 f6) (x) (nI 1) (nI 20)) gX6_open_X6_in rfl rfl rfl (by decide +kernel) rfl ⟨Nat.le_of_ble_eq_true rfl, Nat.le_of_ble_eq_true rfl⟩ ⟨Nat.le_of_ble_eq_true rfl, Nat.le_of_ble_eq_true rfl⟩ (Nat.le_of_ble_eq_true rfl) rfl dX6_open_5 ?_
  refine v_if_neB 15 dX6_open_8 rfl (fun h8 => ?_) (fun h8 => ?_)
  · skip
    refine v_aload_n 0 dX6_open_15 rfl rfl ?_
    refine u_getr (k := 1) (C := RX6) (T := TX6) (NF := 13) hM.n hM.s rfl rfl inX6_open_X6 (by decide) (by decide +kernel) rfl dX6_open_16 ?_
    refine v_iconst (nI 1) dX6_open_19 (by decide +kernel) ?_
    refine m_ld1 1 hM (rfl) (by omega) dX6_open_20 ?_
    refine v_topi (nI 3) (hl) ?_
    refine v_iconst (nI 3) dX6_open_21 (by decide +kernel) ?_
    refine v_icmp_neN 29 (by omega) (by omega) dX6_open_22 rfl (fun h22 => ?_) (fun h22 => ?_)
    · skip
      omega
    · skip
      refine v_iconst (nI 2) dX6_open_25 (by decide +kernel) ?_
      refine v_goto 30 dX6_open_26 rfl ?_
      refine u_callVv [.int (nI 2)] [] 1 (c_X6_holds lu Dg E N G shp σ hM f0 f1 f2 f3 f4 f5 f6 2 (by omega)) (ci := 6) (C := RX6) (T := TX6) (NF := 13) hM.n hM.s rfl gX6_open_X6_holds rfl rfl rfl (by decide +kernel) rfl ⟨Nat.le_of_ble_eq_true rfl, Nat.le_of_ble_eq_true rfl⟩ ⟨Nat.le_of_ble_eq_true rfl, Nat.le_of_ble_eq_true rfl⟩ (Nat.le_of_ble_eq_true rfl) rfl dX6_open_30 ?_
      refine v_if_neB 38 dX6_open_33 rfl (fun h33 => ?_) (fun h33 => ?_)
      · skip
        exact absurd h33 (by decide)
      · skip
        refine v_iconst (nI 0) dX6_open_36 (by decide +kernel) ?_
        refine v_iret rfl dX6_open_37 ⟨congrArg (fun z => some (Value.int z)) ?_, congrArg (φ shp) ?_⟩
        · rfl
        · rfl
  · skip
    exact absurd hx h8

set_option maxHeartbeats 4000000 in
set_option maxRecDepth 100000 in
/-- open_0 -/
theorem c_X6_open_0 (lu : Launch) (Dg : va_G) (E : Nat → ClassId) (N : Nat) (G : Nat → Nat) (shp : Nat → (Nat → Int32) → va_E) (σ : Nat → Nat → Int32) {b : Nat} (hM : ModS E G shp N b) (f0 f1 f2 f3 f4 f5 f6 : Nat → Int32)  (x : Int32) {l : Nat} (hx : nI 1 ≤ x ∧ x ≤ nI 20) (hl : f1 1 = nI l) (hl3 : l < 3) {m : Nat} (hm : f0 5 = nI m) (h14 : m ≤ 14)  : CS lu yX6_open wsX6_open { frames := 1, cells := 0, slots := 0, locals := 22 } Dg E N G shp (mk7 σ b f0 f1 f2 f3 f4 f5 f6) [.ref (G b), .int x] (some (.int (nI l))) (mk7 σ b (upd (upd f0 0 (nI 0)) 5 (nI (min (m + 1) 14))) (upd (upd f1 (10 + l) x) 1 (nI (l + 1))) f2 (remF f1 f3 m) f4 f5 f6) := by
  refine CS.of (cc := cX6_open) (maxL := 2) (ret := (some .int)) (by decide) rfl (Nat.le_of_ble_eq_true rfl) ?_
  intro p_ e_ s_ m_ args_ below_ meth_ c_
  refine v_eq (pc' := 0) (st' := []) rfl rfl ?_
  refine v_loc [0, 1] [(0, .ref (G b)), (1, .int x)] rfl ?_
  refine v_aload_n 0 dX6_open_0 rfl rfl ?_
  refine v_iload_n 1 dX6_open_1 rfl rfl ?_
  refine v_iconst (nI 1) dX6_open_2 (by decide +kernel) ?_
  refine v_bipush (nI 20) dX6_open_3 (by decide +kernel) ?_
  refine u_callSv [.int x, .int (nI 1), .int (nI 20)] [.ref (G b)] 3 (c_X6_in lu Dg E N G shp (mk7 σ b f0 f1 f2 f3 f4 f5 f6) (x) (nI 1) (nI 20)) gX6_open_X6_in rfl rfl rfl (by decide +kernel) rfl ⟨Nat.le_of_ble_eq_true rfl, Nat.le_of_ble_eq_true rfl⟩ ⟨Nat.le_of_ble_eq_true rfl, Nat.le_of_ble_eq_true rfl⟩ (Nat.le_of_ble_eq_true rfl) rfl dX6_open_5 ?_
  refine v_if_neB 15 dX6_open_8 rfl (fun h8 => ?_) (fun h8 => ?_)
  · skip
    refine v_aload_n 0 dX6_open_15 rfl rfl ?_
    refine u_getr (k := 1) (C := RX6) (T := TX6) (NF := 13) hM.n hM.s rfl rfl inX6_open_X6 (by decide) (by decide +kernel) rfl dX6_open_16 ?_
    refine v_iconst (nI 1) dX6_open_19 (by decide +kernel) ?_
    refine m_ld1 1 hM (rfl) (by omega) dX6_open_20 ?_
    refine v_topi (nI l) (hl) ?_
    refine v_iconst (nI 3) dX6_open_21 (by decide +kernel) ?_
    refine v_icmp_neN 29 (by omega) (by omega) dX6_open_22 rfl (fun h22 => ?_) (fun h22 => ?_)
    · skip
      refine v_iconst (nI 0) dX6_open_29 (by decide +kernel) ?_
      refine u_callVv [.int (nI 0)] [] 1 (c_X6_holds lu Dg E N G shp σ hM f0 f1 f2 f3 f4 f5 f6 0 (by omega)) (ci := 6) (C := RX6) (T := TX6) (NF := 13) hM.n hM.s rfl gX6_open_X6_holds rfl rfl rfl (by decide +kernel) rfl ⟨Nat.le_of_ble_eq_true rfl, Nat.le_of_ble_eq_true rfl⟩ ⟨Nat.le_of_ble_eq_true rfl, Nat.le_of_ble_eq_true rfl⟩ (Nat.le_of_ble_eq_true rfl) rfl dX6_open_30 ?_
      refine v_if_neB 38 dX6_open_33 rfl (fun h33 => ?_) (fun h33 => ?_)
      · skip
        refine v_aload_n 0 dX6_open_38 rfl rfl ?_
        refine u_callVn [] [] 0 (c_X6_remember lu Dg E N G shp σ hM (upd f0 0 (nI 0)) f1 f2 f3 f4 f5 f6 (m := m) (by rw [upd_ap, if_neg (by omega)]; exact hm) h14) (ci := 6) (C := RX6) (T := TX6) (NF := 13) hM.n hM.s rfl gX6_open_X6_remember rfl rfl rfl (by decide +kernel) rfl ⟨Nat.le_of_ble_eq_true rfl, Nat.le_of_ble_eq_true rfl⟩ ⟨Nat.le_of_ble_eq_true rfl, Nat.le_of_ble_eq_true rfl⟩ (Nat.le_of_ble_eq_true rfl) rfl dX6_open_39 ?_
        refine v_aload_n 0 dX6_open_42 rfl rfl ?_
        refine v_iload_n 1 dX6_open_43 rfl rfl ?_
        refine u_callVv [.int x] [] 1 (c_X6_lineOf lu Dg E N G shp σ hM (upd (upd f0 0 (nI 0)) 5 (nI (min (m + 1) 14))) f1 f2 (remF f1 f3 m) f4 f5 f6 hl hl3 x) (ci := 6) (C := RX6) (T := TX6) (NF := 13) hM.n hM.s rfl gX6_open_X6_lineOf rfl rfl rfl (by decide +kernel) rfl ⟨Nat.le_of_ble_eq_true rfl, Nat.le_of_ble_eq_true rfl⟩ ⟨Nat.le_of_ble_eq_true rfl, Nat.le_of_ble_eq_true rfl⟩ (Nat.le_of_ble_eq_true rfl) rfl dX6_open_44 ?_
        refine v_iret rfl dX6_open_47 ⟨congrArg (fun z => some (Value.int z)) ?_, congrArg (φ shp) ?_⟩
        · rfl
        · rfl
      · skip
        exact absurd rfl h33
    · skip
      omega
  · skip
    exact absurd hx h8

set_option maxHeartbeats 4000000 in
set_option maxRecDepth 100000 in
/-- come_n -/
theorem c_X6_come_n (lu : Launch) (Dg : va_G) (E : Nat → ClassId) (N : Nat) (G : Nat → Nat) (shp : Nat → (Nat → Int32) → va_E) (σ : Nat → Nat → Int32) {b : Nat} (hM : ModS E G shp N b) (f0 f1 f2 f3 f4 f5 f6 : Nat → Int32) {T : Nat} (hI : Inv T f1) (x y : Int32) {k : Nat} (hf : comeFl f1 x y = k) (hk0 : k ≠ 0) (hk : k ≤ 3)  : CS lu yX6_come wsX6_come { frames := 3, cells := 0, slots := 0, locals := 65 } Dg E N G shp (mk7 σ b f0 f1 f2 f3 f4 f5 f6) [.ref (G b), .int x, .int y] (some (.int (nI 0))) (mk7 σ b (upd f0 0 (nI k)) f1 f2 f3 f4 f5 f6) := by
  refine CS.of (cc := cX6_come) (maxL := 3) (ret := (some .int)) (by decide) rfl (Nat.le_of_ble_eq_true rfl) ?_
  intro p_ e_ s_ m_ args_ below_ meth_ c_
  refine v_eq (pc' := 0) (st' := []) rfl rfl ?_
  refine v_loc [0, 1, 2] [(0, .ref (G b)), (1, .int x), (2, .int y)] rfl ?_
  refine v_aload_n 0 dX6_come_0 rfl rfl ?_
  refine v_aload_n 0 dX6_come_1 rfl rfl ?_
  refine v_iload_n 1 dX6_come_2 rfl rfl ?_
  refine v_iload_n 2 dX6_come_3 rfl rfl ?_
  refine u_callVv [.int x, .int y] [.ref (G b)] 2 (c_X6_comeFault lu Dg E N G shp σ hM f0 f1 f2 f3 f4 f5 f6 hI (x) (y)) (ci := 6) (C := RX6) (T := TX6) (NF := 13) hM.n hM.s rfl gX6_come_X6_comeFault rfl rfl rfl (by decide +kernel) rfl ⟨Nat.le_of_ble_eq_true rfl, Nat.le_of_ble_eq_true rfl⟩ ⟨Nat.le_of_ble_eq_true rfl, Nat.le_of_ble_eq_true rfl⟩ (Nat.le_of_ble_eq_true rfl) rfl dX6_come_4 ?_
  refine v_topi (nI k) (congrArg nI hf) ?_
  refine u_callVv [.int (nI k)] [] 1 (c_X6_holds lu Dg E N G shp σ hM f0 f1 f2 f3 f4 f5 f6 k (by omega)) (ci := 6) (C := RX6) (T := TX6) (NF := 13) hM.n hM.s rfl gX6_come_X6_holds rfl rfl rfl (by decide +kernel) rfl ⟨Nat.le_of_ble_eq_true rfl, Nat.le_of_ble_eq_true rfl⟩ ⟨Nat.le_of_ble_eq_true rfl, Nat.le_of_ble_eq_true rfl⟩ (Nat.le_of_ble_eq_true rfl) rfl dX6_come_7 ?_
  refine v_if_neB 15 dX6_come_10 rfl (fun h10 => ?_) (fun h10 => ?_)
  · skip
    exact absurd h10 hk0
  · skip
    refine v_iconst (nI 0) dX6_come_13 (by decide +kernel) ?_
    refine v_iret rfl dX6_come_14 ⟨congrArg (fun z => some (Value.int z)) ?_, congrArg (φ shp) ?_⟩
    · rfl
    · rfl

set_option maxHeartbeats 4000000 in
set_option maxRecDepth 100000 in
/-- go_n -/
theorem c_X6_go_n (lu : Launch) (Dg : va_G) (E : Nat → ClassId) (N : Nat) (G : Nat → Nat) (shp : Nat → (Nat → Int32) → va_E) (σ : Nat → Nat → Int32) {b : Nat} (hM : ModS E G shp N b) (f0 f1 f2 f3 f4 f5 f6 : Nat → Int32) {T : Nat} (hI : Inv T f1) (x : Int32) {k : Nat} (hf : goFl f1 x = k) (hk0 : k ≠ 0) (hk : k ≤ 3)  : CS lu yX6_go wsX6_go { frames := 3, cells := 0, slots := 0, locals := 67 } Dg E N G shp (mk7 σ b f0 f1 f2 f3 f4 f5 f6) [.ref (G b), .int x] (some (.int (nI 0))) (mk7 σ b (upd f0 0 (nI k)) f1 f2 f3 f4 f5 f6) := by
  refine CS.of (cc := cX6_go) (maxL := 2) (ret := (some .int)) (by decide) rfl (Nat.le_of_ble_eq_true rfl) ?_
  intro p_ e_ s_ m_ args_ below_ meth_ c_
  refine v_eq (pc' := 0) (st' := []) rfl rfl ?_
  refine v_loc [0, 1] [(0, .ref (G b)), (1, .int x)] rfl ?_
  refine v_aload_n 0 dX6_go_0 rfl rfl ?_
  refine v_aload_n 0 dX6_go_1 rfl rfl ?_
  refine v_iload_n 1 dX6_go_2 rfl rfl ?_
  refine u_callVv [.int x] [.ref (G b)] 1 (c_X6_goFault lu Dg E N G shp σ hM f0 f1 f2 f3 f4 f5 f6 hI (x)) (ci := 6) (C := RX6) (T := TX6) (NF := 13) hM.n hM.s rfl gX6_go_X6_goFault rfl rfl rfl (by decide +kernel) rfl ⟨Nat.le_of_ble_eq_true rfl, Nat.le_of_ble_eq_true rfl⟩ ⟨Nat.le_of_ble_eq_true rfl, Nat.le_of_ble_eq_true rfl⟩ (Nat.le_of_ble_eq_true rfl) rfl dX6_go_3 ?_
  refine v_topi (nI k) (congrArg nI hf) ?_
  refine u_callVv [.int (nI k)] [] 1 (c_X6_holds lu Dg E N G shp σ hM f0 f1 f2 f3 f4 f5 f6 k (by omega)) (ci := 6) (C := RX6) (T := TX6) (NF := 13) hM.n hM.s rfl gX6_go_X6_holds rfl rfl rfl (by decide +kernel) rfl ⟨Nat.le_of_ble_eq_true rfl, Nat.le_of_ble_eq_true rfl⟩ ⟨Nat.le_of_ble_eq_true rfl, Nat.le_of_ble_eq_true rfl⟩ (Nat.le_of_ble_eq_true rfl) rfl dX6_go_6 ?_
  refine v_if_neB 14 dX6_go_9 rfl (fun h9 => ?_) (fun h9 => ?_)
  · skip
    exact absurd h9 hk0
  · skip
    refine v_iconst (nI 0) dX6_go_12 (by decide +kernel) ?_
    refine v_iret rfl dX6_go_13 ⟨congrArg (fun z => some (Value.int z)) ?_, congrArg (φ shp) ?_⟩
    · rfl
    · rfl

set_option maxHeartbeats 4000000 in
set_option maxRecDepth 100000 in
/-- exchange_n -/
theorem c_X6_exchange_n (lu : Launch) (Dg : va_G) (E : Nat → ClassId) (N : Nat) (G : Nat → Nat) (shp : Nat → (Nat → Int32) → va_E) (σ : Nat → Nat → Int32) {b : Nat} (hM : ModS E G shp N b) (f0 f1 f2 f3 f4 f5 f6 : Nat → Int32) {T : Nat} (hI : Inv T f1) (x y : Int32) {k : Nat} (hf : exchFl f1 x y = k) (hk0 : k ≠ 0) (hk : k ≤ 3)  : CS lu yX6_exchange wsX6_exchange { frames := 3, cells := 0, slots := 0, locals := 71 } Dg E N G shp (mk7 σ b f0 f1 f2 f3 f4 f5 f6) [.ref (G b), .int x, .int y] (some (.int (nI 0))) (mk7 σ b (upd f0 0 (nI k)) f1 f2 f3 f4 f5 f6) := by
  refine CS.of (cc := cX6_exchange) (maxL := 3) (ret := (some .int)) (by decide) rfl (Nat.le_of_ble_eq_true rfl) ?_
  intro p_ e_ s_ m_ args_ below_ meth_ c_
  refine v_eq (pc' := 0) (st' := []) rfl rfl ?_
  refine v_loc [0, 1, 2] [(0, .ref (G b)), (1, .int x), (2, .int y)] rfl ?_
  refine v_aload_n 0 dX6_exchange_0 rfl rfl ?_
  refine v_aload_n 0 dX6_exchange_1 rfl rfl ?_
  refine v_iload_n 1 dX6_exchange_2 rfl rfl ?_
  refine v_iload_n 2 dX6_exchange_3 rfl rfl ?_
  refine u_callVv [.int x, .int y] [.ref (G b)] 2 (c_X6_exchangeFault lu Dg E N G shp σ hM f0 f1 f2 f3 f4 f5 f6 hI (x) (y)) (ci := 6) (C := RX6) (T := TX6) (NF := 13) hM.n hM.s rfl gX6_exchange_X6_exchangeFault rfl rfl rfl (by decide +kernel) rfl ⟨Nat.le_of_ble_eq_true rfl, Nat.le_of_ble_eq_true rfl⟩ ⟨Nat.le_of_ble_eq_true rfl, Nat.le_of_ble_eq_true rfl⟩ (Nat.le_of_ble_eq_true rfl) rfl dX6_exchange_4 ?_
  refine v_topi (nI k) (congrArg nI hf) ?_
  refine u_callVv [.int (nI k)] [] 1 (c_X6_holds lu Dg E N G shp σ hM f0 f1 f2 f3 f4 f5 f6 k (by omega)) (ci := 6) (C := RX6) (T := TX6) (NF := 13) hM.n hM.s rfl gX6_exchange_X6_holds rfl rfl rfl (by decide +kernel) rfl ⟨Nat.le_of_ble_eq_true rfl, Nat.le_of_ble_eq_true rfl⟩ ⟨Nat.le_of_ble_eq_true rfl, Nat.le_of_ble_eq_true rfl⟩ (Nat.le_of_ble_eq_true rfl) rfl dX6_exchange_7 ?_
  refine v_if_neB 15 dX6_exchange_10 rfl (fun h10 => ?_) (fun h10 => ?_)
  · skip
    exact absurd h10 hk0
  · skip
    refine v_iconst (nI 0) dX6_exchange_13 (by decide +kernel) ?_
    refine v_iret rfl dX6_exchange_14 ⟨congrArg (fun z => some (Value.int z)) ?_, congrArg (φ shp) ?_⟩
    · rfl
    · rfl

set_option maxHeartbeats 4000000 in
set_option maxRecDepth 100000 in
/-- jump_n -/
theorem c_X6_jump_n (lu : Launch) (Dg : va_G) (E : Nat → ClassId) (N : Nat) (G : Nat → Nat) (shp : Nat → (Nat → Int32) → va_E) (σ : Nat → Nat → Int32) {b : Nat} (hM : ModS E G shp N b) (f0 f1 f2 f3 f4 f5 f6 : Nat → Int32) {T : Nat} (hI : Inv T f1) (x : Int32) {k : Nat} (hf : jumpFl f1 x = k) (hk0 : k ≠ 0) (hk : k ≤ 3)  : CS lu yX6_jump wsX6_jump { frames := 3, cells := 0, slots := 0, locals := 71 } Dg E N G shp (mk7 σ b f0 f1 f2 f3 f4 f5 f6) [.ref (G b), .int x] (some (.int (nI 0))) (mk7 σ b (upd f0 0 (nI k)) f1 f2 f3 f4 f5 f6) := by
  refine CS.of (cc := cX6_jump) (maxL := 2) (ret := (some .int)) (by decide) rfl (Nat.le_of_ble_eq_true rfl) ?_
  intro p_ e_ s_ m_ args_ below_ meth_ c_
  refine v_eq (pc' := 0) (st' := []) rfl rfl ?_
  refine v_loc [0, 1] [(0, .ref (G b)), (1, .int x)] rfl ?_
  refine v_aload_n 0 dX6_jump_0 rfl rfl ?_
  refine v_aload_n 0 dX6_jump_1 rfl rfl ?_
  refine v_iload_n 1 dX6_jump_2 rfl rfl ?_
  refine u_callVv [.int x] [.ref (G b)] 1 (c_X6_jumpFault lu Dg E N G shp σ hM f0 f1 f2 f3 f4 f5 f6 hI (x)) (ci := 6) (C := RX6) (T := TX6) (NF := 13) hM.n hM.s rfl gX6_jump_X6_jumpFault rfl rfl rfl (by decide +kernel) rfl ⟨Nat.le_of_ble_eq_true rfl, Nat.le_of_ble_eq_true rfl⟩ ⟨Nat.le_of_ble_eq_true rfl, Nat.le_of_ble_eq_true rfl⟩ (Nat.le_of_ble_eq_true rfl) rfl dX6_jump_3 ?_
  refine v_topi (nI k) (congrArg nI hf) ?_
  refine u_callVv [.int (nI k)] [] 1 (c_X6_holds lu Dg E N G shp σ hM f0 f1 f2 f3 f4 f5 f6 k (by omega)) (ci := 6) (C := RX6) (T := TX6) (NF := 13) hM.n hM.s rfl gX6_jump_X6_holds rfl rfl rfl (by decide +kernel) rfl ⟨Nat.le_of_ble_eq_true rfl, Nat.le_of_ble_eq_true rfl⟩ ⟨Nat.le_of_ble_eq_true rfl, Nat.le_of_ble_eq_true rfl⟩ (Nat.le_of_ble_eq_true rfl) rfl dX6_jump_6 ?_
  refine v_if_neB 14 dX6_jump_9 rfl (fun h9 => ?_) (fun h9 => ?_)
  · skip
    exact absurd h9 hk0
  · skip
    refine v_iconst (nI 0) dX6_jump_12 (by decide +kernel) ?_
    refine v_iret rfl dX6_jump_13 ⟨congrArg (fun z => some (Value.int z)) ?_, congrArg (φ shp) ?_⟩
    · rfl
    · rfl

set_option maxHeartbeats 4000000 in
set_option maxRecDepth 100000 in
/-- merge_n -/
theorem c_X6_merge_n (lu : Launch) (Dg : va_G) (E : Nat → ClassId) (N : Nat) (G : Nat → Nat) (shp : Nat → (Nat → Int32) → va_E) (σ : Nat → Nat → Int32) {b : Nat} (hM : ModS E G shp N b) (f0 f1 f2 f3 f4 f5 f6 : Nat → Int32) {T : Nat} (hI : Inv T f1) (x y : Int32) {k : Nat} (hf : mergeFl f1 x y = k) (hk0 : k ≠ 0) (hk : k ≤ 3)  : CS lu yX6_merge wsX6_merge { frames := 3, cells := 0, slots := 0, locals := 72 } Dg E N G shp (mk7 σ b f0 f1 f2 f3 f4 f5 f6) [.ref (G b), .int x, .int y] (some (.int (nI 0))) (mk7 σ b (upd f0 0 (nI k)) f1 f2 f3 f4 f5 f6) := by
  refine CS.of (cc := cX6_merge) (maxL := 3) (ret := (some .int)) (by decide) rfl (Nat.le_of_ble_eq_true rfl) ?_
  intro p_ e_ s_ m_ args_ below_ meth_ c_
  refine v_eq (pc' := 0) (st' := []) rfl rfl ?_
  refine v_loc [0, 1, 2] [(0, .ref (G b)), (1, .int x), (2, .int y)] rfl ?_
  refine v_aload_n 0 dX6_merge_0 rfl rfl ?_
  refine v_aload_n 0 dX6_merge_1 rfl rfl ?_
  refine v_iload_n 1 dX6_merge_2 rfl rfl ?_
  refine v_iload_n 2 dX6_merge_3 rfl rfl ?_
  refine u_callVv [.int x, .int y] [.ref (G b)] 2 (c_X6_mergeFault lu Dg E N G shp σ hM f0 f1 f2 f3 f4 f5 f6 hI (x) (y)) (ci := 6) (C := RX6) (T := TX6) (NF := 13) hM.n hM.s rfl gX6_merge_X6_mergeFault rfl rfl rfl (by decide +kernel) rfl ⟨Nat.le_of_ble_eq_true rfl, Nat.le_of_ble_eq_true rfl⟩ ⟨Nat.le_of_ble_eq_true rfl, Nat.le_of_ble_eq_true rfl⟩ (Nat.le_of_ble_eq_true rfl) rfl dX6_merge_4 ?_
  refine v_topi (nI k) (congrArg nI hf) ?_
  refine u_callVv [.int (nI k)] [] 1 (c_X6_holds lu Dg E N G shp σ hM f0 f1 f2 f3 f4 f5 f6 k (by omega)) (ci := 6) (C := RX6) (T := TX6) (NF := 13) hM.n hM.s rfl gX6_merge_X6_holds rfl rfl rfl (by decide +kernel) rfl ⟨Nat.le_of_ble_eq_true rfl, Nat.le_of_ble_eq_true rfl⟩ ⟨Nat.le_of_ble_eq_true rfl, Nat.le_of_ble_eq_true rfl⟩ (Nat.le_of_ble_eq_true rfl) rfl dX6_merge_7 ?_
  refine v_if_neB 15 dX6_merge_10 rfl (fun h10 => ?_) (fun h10 => ?_)
  · skip
    exact absurd h10 hk0
  · skip
    refine v_iconst (nI 0) dX6_merge_13 (by decide +kernel) ?_
    refine v_iret rfl dX6_merge_14 ⟨congrArg (fun z => some (Value.int z)) ?_, congrArg (φ shp) ?_⟩
    · rfl
    · rfl

set_option maxHeartbeats 4000000 in
set_option maxRecDepth 100000 in
/-- saved_n -/
theorem c_X6_saved_n (lu : Launch) (Dg : va_G) (E : Nat → ClassId) (N : Nat) (G : Nat → Nat) (shp : Nat → (Nat → Int32) → va_E) (σ : Nat → Nat → Int32) {b : Nat} (hM : ModS E G shp N b) (f0 f1 f2 f3 f4 f5 f6 : Nat → Int32) {T : Nat} (hI : Inv T f1) (x y : Int32) {k : Nat} (hf : mergeFl f1 x y = k) (hk0 : k ≠ 0) (hk : k ≤ 3)  : CS lu yX6_saved wsX6_saved { frames := 6, cells := 0, slots := 0, locals := 131 } Dg E N G shp (mk7 σ b f0 f1 f2 f3 f4 f5 f6) [.ref (G b), .int x, .int y] (some (.int (nI 0))) (mk7 σ b (upd f0 0 (nI k)) f1 f2 f3 f4 f5 f6) := by
  refine CS.of (cc := cX6_saved) (maxL := 6) (ret := (some .int)) (by decide) rfl (Nat.le_of_ble_eq_true rfl) ?_
  intro p_ e_ s_ m_ args_ below_ meth_ c_
  refine v_eq (pc' := 0) (st' := []) rfl rfl ?_
  refine v_loc [0, 1, 2] [(0, .ref (G b)), (1, .int x), (2, .int y)] rfl ?_
  refine v_aload_n 0 dX6_saved_0 rfl rfl ?_
  refine v_aload_n 0 dX6_saved_1 rfl rfl ?_
  refine v_iload_n 1 dX6_saved_2 rfl rfl ?_
  refine v_iload_n 2 dX6_saved_3 rfl rfl ?_
  refine u_callVv [.int x, .int y] [.ref (G b)] 2 (c_X6_mergeFault lu Dg E N G shp σ hM f0 f1 f2 f3 f4 f5 f6 hI (x) (y)) (ci := 6) (C := RX6) (T := TX6) (NF := 13) hM.n hM.s rfl gX6_saved_X6_mergeFault rfl rfl rfl (by decide +kernel) rfl ⟨Nat.le_of_ble_eq_true rfl, Nat.le_of_ble_eq_true rfl⟩ ⟨Nat.le_of_ble_eq_true rfl, Nat.le_of_ble_eq_true rfl⟩ (Nat.le_of_ble_eq_true rfl) rfl dX6_saved_4 ?_
  refine v_topi (nI k) (congrArg nI hf) ?_
  refine u_callVv [.int (nI k)] [] 1 (c_X6_holds lu Dg E N G shp σ hM f0 f1 f2 f3 f4 f5 f6 k (by omega)) (ci := 6) (C := RX6) (T := TX6) (NF := 13) hM.n hM.s rfl gX6_saved_X6_holds rfl rfl rfl (by decide +kernel) rfl ⟨Nat.le_of_ble_eq_true rfl, Nat.le_of_ble_eq_true rfl⟩ ⟨Nat.le_of_ble_eq_true rfl, Nat.le_of_ble_eq_true rfl⟩ (Nat.le_of_ble_eq_true rfl) rfl dX6_saved_7 ?_
  refine v_if_neB 15 dX6_saved_10 rfl (fun h10 => ?_) (fun h10 => ?_)
  · skip
    exact absurd h10 hk0
  · skip
    refine v_iconst (nI 0) dX6_saved_13 (by decide +kernel) ?_
    refine v_iret rfl dX6_saved_14 ⟨congrArg (fun z => some (Value.int z)) ?_, congrArg (φ shp) ?_⟩
    · rfl
    · rfl

set_option maxHeartbeats 4000000 in
set_option maxRecDepth 100000 in
/-- servedIn_n -/
theorem c_X6_servedIn_n (lu : Launch) (Dg : va_G) (E : Nat → ClassId) (N : Nat) (G : Nat → Nat) (shp : Nat → (Nat → Int32) → va_E) (σ : Nat → Nat → Int32) {b : Nat} (hM : ModS E G shp N b) (f0 f1 f2 f3 f4 f5 f6 : Nat → Int32) {T : Nat} (hI : Inv T f1) (x : Int32) {k : Nat} (hf : goFl f1 x = k) (hk0 : k ≠ 0) (hk : k ≤ 3)  : CS lu yX6_servedIn wsX6_servedIn { frames := 5, cells := 0, slots := 0, locals := 109 } Dg E N G shp (mk7 σ b f0 f1 f2 f3 f4 f5 f6) [.ref (G b), .int x] (some (.int (nI 0))) (mk7 σ b (upd f0 0 (nI k)) f1 f2 f3 f4 f5 f6) := by
  refine CS.of (cc := cX6_servedIn) (maxL := 2) (ret := (some .int)) (by decide) rfl (Nat.le_of_ble_eq_true rfl) ?_
  intro p_ e_ s_ m_ args_ below_ meth_ c_
  refine v_eq (pc' := 0) (st' := []) rfl rfl ?_
  refine v_loc [0, 1] [(0, .ref (G b)), (1, .int x)] rfl ?_
  refine v_aload_n 0 dX6_servedIn_0 rfl rfl ?_
  refine v_aload_n 0 dX6_servedIn_1 rfl rfl ?_
  refine v_iload_n 1 dX6_servedIn_2 rfl rfl ?_
  refine u_callVv [.int x] [.ref (G b)] 1 (c_X6_goFault lu Dg E N G shp σ hM f0 f1 f2 f3 f4 f5 f6 hI (x)) (ci := 6) (C := RX6) (T := TX6) (NF := 13) hM.n hM.s rfl gX6_servedIn_X6_goFault rfl rfl rfl (by decide +kernel) rfl ⟨Nat.le_of_ble_eq_true rfl, Nat.le_of_ble_eq_true rfl⟩ ⟨Nat.le_of_ble_eq_true rfl, Nat.le_of_ble_eq_true rfl⟩ (Nat.le_of_ble_eq_true rfl) rfl dX6_servedIn_3 ?_
  refine v_topi (nI k) (congrArg nI hf) ?_
  refine u_callVv [.int (nI k)] [] 1 (c_X6_holds lu Dg E N G shp σ hM f0 f1 f2 f3 f4 f5 f6 k (by omega)) (ci := 6) (C := RX6) (T := TX6) (NF := 13) hM.n hM.s rfl gX6_servedIn_X6_holds rfl rfl rfl (by decide +kernel) rfl ⟨Nat.le_of_ble_eq_true rfl, Nat.le_of_ble_eq_true rfl⟩ ⟨Nat.le_of_ble_eq_true rfl, Nat.le_of_ble_eq_true rfl⟩ (Nat.le_of_ble_eq_true rfl) rfl dX6_servedIn_6 ?_
  refine v_if_eqB 20 dX6_servedIn_9 rfl (fun h9 => ?_) (fun h9 => ?_)
  · skip
    refine v_iconst (nI 0) dX6_servedIn_20 (by decide +kernel) ?_
    refine v_iret rfl dX6_servedIn_21 ⟨congrArg (fun z => some (Value.int z)) ?_, congrArg (φ shp) ?_⟩
    · rfl
    · rfl
  · skip
    exact absurd h9 hk0

set_option maxHeartbeats 4000000 in
set_option maxRecDepth 100000 in
/-- gain_n -/
theorem c_X6_gain_n (lu : Launch) (Dg : va_G) (E : Nat → ClassId) (N : Nat) (G : Nat → Nat) (shp : Nat → (Nat → Int32) → va_E) (σ : Nat → Nat → Int32) {b : Nat} (hM : ModS E G shp N b) (f0 f1 f2 f3 f4 f5 f6 : Nat → Int32) {T : Nat} (hI : Inv T f1) (x y : Int32) {k : Nat} (hf : exchFl f1 x y = k) (hk0 : k ≠ 0) (hk : k ≤ 3)  : CS lu yX6_gain wsX6_gain { frames := 6, cells := 0, slots := 0, locals := 134 } Dg E N G shp (mk7 σ b f0 f1 f2 f3 f4 f5 f6) [.ref (G b), .int x, .int y] (some (.int (nI 0))) (mk7 σ b (upd f0 0 (nI k)) f1 f2 f3 f4 f5 f6) := by
  refine CS.of (cc := cX6_gain) (maxL := 3) (ret := (some .int)) (by decide) rfl (Nat.le_of_ble_eq_true rfl) ?_
  intro p_ e_ s_ m_ args_ below_ meth_ c_
  refine v_eq (pc' := 0) (st' := []) rfl rfl ?_
  refine v_loc [0, 1, 2] [(0, .ref (G b)), (1, .int x), (2, .int y)] rfl ?_
  refine v_aload_n 0 dX6_gain_0 rfl rfl ?_
  refine v_aload_n 0 dX6_gain_1 rfl rfl ?_
  refine v_iload_n 1 dX6_gain_2 rfl rfl ?_
  refine v_iload_n 2 dX6_gain_3 rfl rfl ?_
  refine u_callVv [.int x, .int y] [.ref (G b)] 2 (c_X6_exchangeFault lu Dg E N G shp σ hM f0 f1 f2 f3 f4 f5 f6 hI (x) (y)) (ci := 6) (C := RX6) (T := TX6) (NF := 13) hM.n hM.s rfl gX6_gain_X6_exchangeFault rfl rfl rfl (by decide +kernel) rfl ⟨Nat.le_of_ble_eq_true rfl, Nat.le_of_ble_eq_true rfl⟩ ⟨Nat.le_of_ble_eq_true rfl, Nat.le_of_ble_eq_true rfl⟩ (Nat.le_of_ble_eq_true rfl) rfl dX6_gain_4 ?_
  refine v_topi (nI k) (congrArg nI hf) ?_
  refine u_callVv [.int (nI k)] [] 1 (c_X6_holds lu Dg E N G shp σ hM f0 f1 f2 f3 f4 f5 f6 k (by omega)) (ci := 6) (C := RX6) (T := TX6) (NF := 13) hM.n hM.s rfl gX6_gain_X6_holds rfl rfl rfl (by decide +kernel) rfl ⟨Nat.le_of_ble_eq_true rfl, Nat.le_of_ble_eq_true rfl⟩ ⟨Nat.le_of_ble_eq_true rfl, Nat.le_of_ble_eq_true rfl⟩ (Nat.le_of_ble_eq_true rfl) rfl dX6_gain_7 ?_
  refine v_if_eqB 22 dX6_gain_10 rfl (fun h10 => ?_) (fun h10 => ?_)
  · skip
    refine v_iconst (nI 0) dX6_gain_22 (by decide +kernel) ?_
    refine v_iret rfl dX6_gain_23 ⟨congrArg (fun z => some (Value.int z)) ?_, congrArg (φ shp) ?_⟩
    · rfl
    · rfl
  · skip
    exact absurd h10 hk0

set_option maxHeartbeats 4000000 in
set_option maxRecDepth 100000 in
/-- come_0 -/
theorem c_X6_come_0 (lu : Launch) (Dg : va_G) (E : Nat → ClassId) (N : Nat) (G : Nat → Nat) (shp : Nat → (Nat → Int32) → va_E) (σ : Nat → Nat → Int32) {b : Nat} (hM : ModS E G shp N b) (f0 f1 f2 f3 f4 f5 f6 : Nat → Int32) {T : Nat} (hI : Inv T f1) {m : Nat} (hm : f0 5 = nI m) (h14 : m ≤ 14) {y k0 : Nat} (hy : y < 2 ^ 31) (hf : comeFl f1 (nI y) (nI k0) = 0)  : CS lu yX6_come wsX6_come { frames := 3, cells := 0, slots := 0, locals := 65 } Dg E N G shp (mk7 σ b f0 f1 f2 f3 f4 f5 f6) [.ref (G b), .int (nI y), .int (nI k0)] (some (.int (nI (tn (f1 2))))) (mk7 σ b (upd (upd f0 0 (nI 0)) 5 (nI (min (m + 1) 14))) (comesS f1 y k0) f2 (remF f1 f3 m) f4 f5 f6) := by
  refine CS.of (cc := cX6_come) (maxL := 3) (ret := (some .int)) (by decide) rfl (Nat.le_of_ble_eq_true rfl) ?_
  intro p_ e_ s_ m_ args_ below_ meth_ c_
  refine v_eq (pc' := 0) (st' := []) rfl rfl ?_
  refine v_loc [0, 1, 2] [(0, .ref (G b)), (1, .int (nI y)), (2, .int (nI k0))] rfl ?_
  have hk := come_ok hI hy hf
  have hl3 := Nat.lt_of_lt_of_le hk.1 hI.nl3
  refine v_aload_n 0 dX6_come_0 rfl rfl ?_
  refine v_aload_n 0 dX6_come_1 rfl rfl ?_
  refine v_iload_n 1 dX6_come_2 rfl rfl ?_
  refine v_iload_n 2 dX6_come_3 rfl rfl ?_
  refine u_callVv [.int (nI y), .int (nI k0)] [.ref (G b)] 2 (c_X6_comeFault lu Dg E N G shp σ hM f0 f1 f2 f3 f4 f5 f6 hI (nI y) (nI k0)) (ci := 6) (C := RX6) (T := TX6) (NF := 13) hM.n hM.s rfl gX6_come_X6_comeFault rfl rfl rfl (by decide +kernel) rfl ⟨Nat.le_of_ble_eq_true rfl, Nat.le_of_ble_eq_true rfl⟩ ⟨Nat.le_of_ble_eq_true rfl, Nat.le_of_ble_eq_true rfl⟩ (Nat.le_of_ble_eq_true rfl) rfl dX6_come_4 ?_
  refine v_topi (nI 0) (congrArg nI (hf)) ?_
  refine u_callVv [.int (nI 0)] [] 1 (c_X6_holds lu Dg E N G shp σ hM f0 f1 f2 f3 f4 f5 f6 0 (by omega)) (ci := 6) (C := RX6) (T := TX6) (NF := 13) hM.n hM.s rfl gX6_come_X6_holds rfl rfl rfl (by decide +kernel) rfl ⟨Nat.le_of_ble_eq_true rfl, Nat.le_of_ble_eq_true rfl⟩ ⟨Nat.le_of_ble_eq_true rfl, Nat.le_of_ble_eq_true rfl⟩ (Nat.le_of_ble_eq_true rfl) rfl dX6_come_7 ?_
  refine v_if_neB 15 dX6_come_10 rfl (fun h10 => ?_) (fun h10 => ?_)
  · skip
    refine v_aload_n 0 dX6_come_15 rfl rfl ?_
    refine u_callVn [] [] 0 (c_X6_remember lu Dg E N G shp σ hM (upd f0 0 (nI 0)) f1 f2 f3 f4 f5 f6 (m := m) (by rw [upd_ap, if_neg (by omega)]; exact hm) h14) (ci := 6) (C := RX6) (T := TX6) (NF := 13) hM.n hM.s rfl gX6_come_X6_remember rfl rfl rfl (by decide +kernel) rfl ⟨Nat.le_of_ble_eq_true rfl, Nat.le_of_ble_eq_true rfl⟩ ⟨Nat.le_of_ble_eq_true rfl, Nat.le_of_ble_eq_true rfl⟩ (Nat.le_of_ble_eq_true rfl) rfl dX6_come_16 ?_
    refine v_aload_n 0 dX6_come_19 rfl rfl ?_
    refine v_iload_n 1 dX6_come_20 rfl rfl ?_
    refine v_iload_n 2 dX6_come_21 rfl rfl ?_
    refine u_callVv [.int (nI y), .int (nI k0)] [] 2 (c_X6_comes lu Dg E N G shp σ hM (upd (upd f0 0 (nI 0)) 5 (nI (min (m + 1) 14))) f1 f2 (remF f1 f3 m) f4 f5 f6 (p := tn (f1 2)) (l := y) (len := tn (f1 (13 + y))) (k0 := k0) hI.np hk.2.1 hl3 (hI.len hk.1) hk.2.2) (ci := 6) (C := RX6) (T := TX6) (NF := 13) hM.n hM.s rfl gX6_come_X6_comes rfl rfl rfl (by decide +kernel) rfl ⟨Nat.le_of_ble_eq_true rfl, Nat.le_of_ble_eq_true rfl⟩ ⟨Nat.le_of_ble_eq_true rfl, Nat.le_of_ble_eq_true rfl⟩ (Nat.le_of_ble_eq_true rfl) rfl dX6_come_22 ?_
    refine v_iret rfl dX6_come_25 ⟨congrArg (fun z => some (Value.int z)) ?_, congrArg (φ shp) ?_⟩
    · rfl
    · rfl
  · skip
    exact absurd rfl h10

set_option maxHeartbeats 4000000 in
set_option maxRecDepth 100000 in
/-- go_0 -/
theorem c_X6_go_0 (lu : Launch) (Dg : va_G) (E : Nat → ClassId) (N : Nat) (G : Nat → Nat) (shp : Nat → (Nat → Int32) → va_E) (σ : Nat → Nat → Int32) {b : Nat} (hM : ModS E G shp N b) (f0 f1 f2 f3 f4 f5 f6 : Nat → Int32) {T : Nat} (hI : Inv T f1) {m : Nat} (hm : f0 5 = nI m) (h14 : m ≤ 14) {p : Nat} (hp : p < 2 ^ 31) (hf : goFl f1 (nI p) = 0)  : CS lu yX6_go wsX6_go { frames := 3, cells := 0, slots := 0, locals := 67 } Dg E N G shp (mk7 σ b f0 f1 f2 f3 f4 f5 f6) [.ref (G b), .int (nI p)] (some (.int (f1 (58 + 10 * p + 2)))) (mk7 σ b (upd (upd f0 0 (nI 0)) 5 (nI (min (m + 1) 14))) (goesS f1 p) f2 (remF f1 f3 m) f4 f5 f6) := by
  refine CS.of (cc := cX6_go) (maxL := 2) (ret := (some .int)) (by decide) rfl (Nat.le_of_ble_eq_true rfl) ?_
  intro p_ e_ s_ m_ args_ below_ meth_ c_
  refine v_eq (pc' := 0) (st' := []) rfl rfl ?_
  refine v_loc [0, 1] [(0, .ref (G b)), (1, .int (nI p))] rfl ?_
  have hk := go_ok hI hp hf
  refine v_aload_n 0 dX6_go_0 rfl rfl ?_
  refine v_aload_n 0 dX6_go_1 rfl rfl ?_
  refine v_iload_n 1 dX6_go_2 rfl rfl ?_
  refine u_callVv [.int (nI p)] [.ref (G b)] 1 (c_X6_goFault lu Dg E N G shp σ hM f0 f1 f2 f3 f4 f5 f6 hI (nI p)) (ci := 6) (C := RX6) (T := TX6) (NF := 13) hM.n hM.s rfl gX6_go_X6_goFault rfl rfl rfl (by decide +kernel) rfl ⟨Nat.le_of_ble_eq_true rfl, Nat.le_of_ble_eq_true rfl⟩ ⟨Nat.le_of_ble_eq_true rfl, Nat.le_of_ble_eq_true rfl⟩ (Nat.le_of_ble_eq_true rfl) rfl dX6_go_3 ?_
  refine v_topi (nI 0) (congrArg nI (hf)) ?_
  refine u_callVv [.int (nI 0)] [] 1 (c_X6_holds lu Dg E N G shp σ hM f0 f1 f2 f3 f4 f5 f6 0 (by omega)) (ci := 6) (C := RX6) (T := TX6) (NF := 13) hM.n hM.s rfl gX6_go_X6_holds rfl rfl rfl (by decide +kernel) rfl ⟨Nat.le_of_ble_eq_true rfl, Nat.le_of_ble_eq_true rfl⟩ ⟨Nat.le_of_ble_eq_true rfl, Nat.le_of_ble_eq_true rfl⟩ (Nat.le_of_ble_eq_true rfl) rfl dX6_go_6 ?_
  refine v_if_neB 14 dX6_go_9 rfl (fun h9 => ?_) (fun h9 => ?_)
  · skip
    refine v_aload_n 0 dX6_go_14 rfl rfl ?_
    refine u_callVn [] [] 0 (c_X6_remember lu Dg E N G shp σ hM (upd f0 0 (nI 0)) f1 f2 f3 f4 f5 f6 (m := m) (by rw [upd_ap, if_neg (by omega)]; exact hm) h14) (ci := 6) (C := RX6) (T := TX6) (NF := 13) hM.n hM.s rfl gX6_go_X6_remember rfl rfl rfl (by decide +kernel) rfl ⟨Nat.le_of_ble_eq_true rfl, Nat.le_of_ble_eq_true rfl⟩ ⟨Nat.le_of_ble_eq_true rfl, Nat.le_of_ble_eq_true rfl⟩ (Nat.le_of_ble_eq_true rfl) rfl dX6_go_15 ?_
    refine v_aload_n 0 dX6_go_18 rfl rfl ?_
    refine v_iload_n 1 dX6_go_19 rfl rfl ?_
    refine u_callVv [.int (nI p)] [] 1 (c_X6_goes lu Dg E N G shp σ hM (upd (upd f0 0 (nI 0)) 5 (nI (min (m + 1) 14))) f1 f2 (remF f1 f3 m) f4 f5 f6 hI hk.1 hk.2) (ci := 6) (C := RX6) (T := TX6) (NF := 13) hM.n hM.s rfl gX6_go_X6_goes rfl rfl rfl (by decide +kernel) rfl ⟨Nat.le_of_ble_eq_true rfl, Nat.le_of_ble_eq_true rfl⟩ ⟨Nat.le_of_ble_eq_true rfl, Nat.le_of_ble_eq_true rfl⟩ (Nat.le_of_ble_eq_true rfl) rfl dX6_go_20 ?_
    refine v_iret rfl dX6_go_23 ⟨congrArg (fun z => some (Value.int z)) ?_, congrArg (φ shp) ?_⟩
    · rfl
    · rfl
  · skip
    exact absurd rfl h9

set_option maxHeartbeats 4000000 in
set_option maxRecDepth 100000 in
/-- exchange_0 -/
theorem c_X6_exchange_0 (lu : Launch) (Dg : va_G) (E : Nat → ClassId) (N : Nat) (G : Nat → Nat) (shp : Nat → (Nat → Int32) → va_E) (σ : Nat → Nat → Int32) {b : Nat} (hM : ModS E G shp N b) (f0 f1 f2 f3 f4 f5 f6 : Nat → Int32) {T : Nat} (hI : Inv T f1) {m : Nat} (hm : f0 5 = nI m) (h14 : m ≤ 14) {p q : Nat} (hp : p < 2 ^ 31) (hq : q < 2 ^ 31) (hf : exchFl f1 (nI p) (nI q) = 0)  : CS lu yX6_exchange wsX6_exchange { frames := 3, cells := 0, slots := 0, locals := 71 } Dg E N G shp (mk7 σ b f0 f1 f2 f3 f4 f5 f6) [.ref (G b), .int (nI p), .int (nI q)] (some (.int (nI (plc f1 p - plc f1 q) * f1 8))) (mk7 σ b (upd (upd f0 0 (nI 0)) 5 (nI (min (m + 1) 14))) (exchS f1 p q) f2 (remF f1 f3 m) f4 f5 f6) := by
  refine CS.of (cc := cX6_exchange) (maxL := 3) (ret := (some .int)) (by decide) rfl (Nat.le_of_ble_eq_true rfl) ?_
  intro p_ e_ s_ m_ args_ below_ meth_ c_
  refine v_eq (pc' := 0) (st' := []) rfl rfl ?_
  refine v_loc [0, 1, 2] [(0, .ref (G b)), (1, .int (nI p)), (2, .int (nI q))] rfl ?_
  have hk := exch_ok hI hp hq hf
  refine v_aload_n 0 dX6_exchange_0 rfl rfl ?_
  refine v_aload_n 0 dX6_exchange_1 rfl rfl ?_
  refine v_iload_n 1 dX6_exchange_2 rfl rfl ?_
  refine v_iload_n 2 dX6_exchange_3 rfl rfl ?_
  refine u_callVv [.int (nI p), .int (nI q)] [.ref (G b)] 2 (c_X6_exchangeFault lu Dg E N G shp σ hM f0 f1 f2 f3 f4 f5 f6 hI (nI p) (nI q)) (ci := 6) (C := RX6) (T := TX6) (NF := 13) hM.n hM.s rfl gX6_exchange_X6_exchangeFault rfl rfl rfl (by decide +kernel) rfl ⟨Nat.le_of_ble_eq_true rfl, Nat.le_of_ble_eq_true rfl⟩ ⟨Nat.le_of_ble_eq_true rfl, Nat.le_of_ble_eq_true rfl⟩ (Nat.le_of_ble_eq_true rfl) rfl dX6_exchange_4 ?_
  refine v_topi (nI 0) (congrArg nI (hf)) ?_
  refine u_callVv [.int (nI 0)] [] 1 (c_X6_holds lu Dg E N G shp σ hM f0 f1 f2 f3 f4 f5 f6 0 (by omega)) (ci := 6) (C := RX6) (T := TX6) (NF := 13) hM.n hM.s rfl gX6_exchange_X6_holds rfl rfl rfl (by decide +kernel) rfl ⟨Nat.le_of_ble_eq_true rfl, Nat.le_of_ble_eq_true rfl⟩ ⟨Nat.le_of_ble_eq_true rfl, Nat.le_of_ble_eq_true rfl⟩ (Nat.le_of_ble_eq_true rfl) rfl dX6_exchange_7 ?_
  refine v_if_neB 15 dX6_exchange_10 rfl (fun h10 => ?_) (fun h10 => ?_)
  · skip
    refine v_aload_n 0 dX6_exchange_15 rfl rfl ?_
    refine u_callVn [] [] 0 (c_X6_remember lu Dg E N G shp σ hM (upd f0 0 (nI 0)) f1 f2 f3 f4 f5 f6 (m := m) (by rw [upd_ap, if_neg (by omega)]; exact hm) h14) (ci := 6) (C := RX6) (T := TX6) (NF := 13) hM.n hM.s rfl gX6_exchange_X6_remember rfl rfl rfl (by decide +kernel) rfl ⟨Nat.le_of_ble_eq_true rfl, Nat.le_of_ble_eq_true rfl⟩ ⟨Nat.le_of_ble_eq_true rfl, Nat.le_of_ble_eq_true rfl⟩ (Nat.le_of_ble_eq_true rfl) rfl dX6_exchange_16 ?_
    refine v_aload_n 0 dX6_exchange_19 rfl rfl ?_
    refine v_iload_n 1 dX6_exchange_20 rfl rfl ?_
    refine v_iload_n 2 dX6_exchange_21 rfl rfl ?_
    refine u_callVv [.int (nI p), .int (nI q)] [] 2 (c_X6_exchanges lu Dg E N G shp σ hM (upd (upd f0 0 (nI 0)) 5 (nI (min (m + 1) 14))) f1 f2 (remF f1 f3 m) f4 f5 f6 hI hk.1 hk.2.1 hk.2.2) (ci := 6) (C := RX6) (T := TX6) (NF := 13) hM.n hM.s rfl gX6_exchange_X6_exchanges rfl rfl rfl (by decide +kernel) rfl ⟨Nat.le_of_ble_eq_true rfl, Nat.le_of_ble_eq_true rfl⟩ ⟨Nat.le_of_ble_eq_true rfl, Nat.le_of_ble_eq_true rfl⟩ (Nat.le_of_ble_eq_true rfl) rfl dX6_exchange_22 ?_
    refine v_iret rfl dX6_exchange_25 ⟨congrArg (fun z => some (Value.int z)) ?_, congrArg (φ shp) ?_⟩
    · rfl
    · rfl
  · skip
    exact absurd rfl h10

set_option maxHeartbeats 4000000 in
set_option maxRecDepth 100000 in
/-- jump_0 -/
theorem c_X6_jump_0 (lu : Launch) (Dg : va_G) (E : Nat → ClassId) (N : Nat) (G : Nat → Nat) (shp : Nat → (Nat → Int32) → va_E) (σ : Nat → Nat → Int32) {b : Nat} (hM : ModS E G shp N b) (f0 f1 f2 f3 f4 f5 f6 : Nat → Int32) {T : Nat} (hI : Inv T f1) {m : Nat} (hm : f0 5 = nI m) (h14 : m ≤ 14) {p : Nat} (hp : p < 2 ^ 31) (hf : jumpFl f1 (nI p) = 0)  : CS lu yX6_jump wsX6_jump { frames := 3, cells := 0, slots := 0, locals := 71 } Dg E N G shp (mk7 σ b f0 f1 f2 f3 f4 f5 f6) [.ref (G b), .int (nI p)] (some (.int (nI (jsteps f1 p)))) (mk7 σ b (upd (upd f0 0 (nI 0)) 5 (nI (min (m + 1) 14))) (jumpsS f1 p) f2 (remF f1 f3 m) f4 f5 f6) := by
  refine CS.of (cc := cX6_jump) (maxL := 2) (ret := (some .int)) (by decide) rfl (Nat.le_of_ble_eq_true rfl) ?_
  intro p_ e_ s_ m_ args_ below_ meth_ c_
  refine v_eq (pc' := 0) (st' := []) rfl rfl ?_
  refine v_loc [0, 1] [(0, .ref (G b)), (1, .int (nI p))] rfl ?_
  have hk := jump_ok hI hp hf
  refine v_aload_n 0 dX6_jump_0 rfl rfl ?_
  refine v_aload_n 0 dX6_jump_1 rfl rfl ?_
  refine v_iload_n 1 dX6_jump_2 rfl rfl ?_
  refine u_callVv [.int (nI p)] [.ref (G b)] 1 (c_X6_jumpFault lu Dg E N G shp σ hM f0 f1 f2 f3 f4 f5 f6 hI (nI p)) (ci := 6) (C := RX6) (T := TX6) (NF := 13) hM.n hM.s rfl gX6_jump_X6_jumpFault rfl rfl rfl (by decide +kernel) rfl ⟨Nat.le_of_ble_eq_true rfl, Nat.le_of_ble_eq_true rfl⟩ ⟨Nat.le_of_ble_eq_true rfl, Nat.le_of_ble_eq_true rfl⟩ (Nat.le_of_ble_eq_true rfl) rfl dX6_jump_3 ?_
  refine v_topi (nI 0) (congrArg nI (hf)) ?_
  refine u_callVv [.int (nI 0)] [] 1 (c_X6_holds lu Dg E N G shp σ hM f0 f1 f2 f3 f4 f5 f6 0 (by omega)) (ci := 6) (C := RX6) (T := TX6) (NF := 13) hM.n hM.s rfl gX6_jump_X6_holds rfl rfl rfl (by decide +kernel) rfl ⟨Nat.le_of_ble_eq_true rfl, Nat.le_of_ble_eq_true rfl⟩ ⟨Nat.le_of_ble_eq_true rfl, Nat.le_of_ble_eq_true rfl⟩ (Nat.le_of_ble_eq_true rfl) rfl dX6_jump_6 ?_
  refine v_if_neB 14 dX6_jump_9 rfl (fun h9 => ?_) (fun h9 => ?_)
  · skip
    refine v_aload_n 0 dX6_jump_14 rfl rfl ?_
    refine u_callVn [] [] 0 (c_X6_remember lu Dg E N G shp σ hM (upd f0 0 (nI 0)) f1 f2 f3 f4 f5 f6 (m := m) (by rw [upd_ap, if_neg (by omega)]; exact hm) h14) (ci := 6) (C := RX6) (T := TX6) (NF := 13) hM.n hM.s rfl gX6_jump_X6_remember rfl rfl rfl (by decide +kernel) rfl ⟨Nat.le_of_ble_eq_true rfl, Nat.le_of_ble_eq_true rfl⟩ ⟨Nat.le_of_ble_eq_true rfl, Nat.le_of_ble_eq_true rfl⟩ (Nat.le_of_ble_eq_true rfl) rfl dX6_jump_15 ?_
    refine v_aload_n 0 dX6_jump_18 rfl rfl ?_
    refine v_iload_n 1 dX6_jump_19 rfl rfl ?_
    refine u_callVv [.int (nI p)] [] 1 (c_X6_jumps lu Dg E N G shp σ hM (upd (upd f0 0 (nI 0)) 5 (nI (min (m + 1) 14))) f1 f2 (remF f1 f3 m) f4 f5 f6 hI hk.1 hk.2) (ci := 6) (C := RX6) (T := TX6) (NF := 13) hM.n hM.s rfl gX6_jump_X6_jumps rfl rfl rfl (by decide +kernel) rfl ⟨Nat.le_of_ble_eq_true rfl, Nat.le_of_ble_eq_true rfl⟩ ⟨Nat.le_of_ble_eq_true rfl, Nat.le_of_ble_eq_true rfl⟩ (Nat.le_of_ble_eq_true rfl) rfl dX6_jump_20 ?_
    refine v_iret rfl dX6_jump_23 ⟨congrArg (fun z => some (Value.int z)) ?_, congrArg (φ shp) ?_⟩
    · rfl
    · rfl
  · skip
    exact absurd rfl h9

set_option maxHeartbeats 4000000 in
set_option maxRecDepth 100000 in
/-- merge_0 -/
theorem c_X6_merge_0 (lu : Launch) (Dg : va_G) (E : Nat → ClassId) (N : Nat) (G : Nat → Nat) (shp : Nat → (Nat → Int32) → va_E) (σ : Nat → Nat → Int32) {b : Nat} (hM : ModS E G shp N b) (f0 f1 f2 f3 f4 f5 f6 : Nat → Int32) {T : Nat} (hI : Inv T f1) {m : Nat} (hm : f0 5 = nI m) (h14 : m ≤ 14) {l o : Nat} (hl : l < 2 ^ 31) (ho : o < 2 ^ 31) (hf : mergeFl f1 (nI l) (nI o) = 0)  : CS lu yX6_merge wsX6_merge { frames := 3, cells := 0, slots := 0, locals := 72 } Dg E N G shp (mk7 σ b f0 f1 f2 f3 f4 f5 f6) [.ref (G b), .int (nI l), .int (nI o)] (some (.int (nI (tn (f1 (13 + l)) + tn (f1 (13 + o)))))) (mk7 σ b (upd (upd f0 0 (nI 0)) 5 (nI (min (m + 1) 14))) (mergesF f1 l o) f2 (remF f1 f3 m) f4 f5 f6) := by
  refine CS.of (cc := cX6_merge) (maxL := 3) (ret := (some .int)) (by decide) rfl (Nat.le_of_ble_eq_true rfl) ?_
  intro p_ e_ s_ m_ args_ below_ meth_ c_
  refine v_eq (pc' := 0) (st' := []) rfl rfl ?_
  refine v_loc [0, 1, 2] [(0, .ref (G b)), (1, .int (nI l)), (2, .int (nI o))] rfl ?_
  have hk := merge_ok hI hl ho hf
  refine v_aload_n 0 dX6_merge_0 rfl rfl ?_
  refine v_aload_n 0 dX6_merge_1 rfl rfl ?_
  refine v_iload_n 1 dX6_merge_2 rfl rfl ?_
  refine v_iload_n 2 dX6_merge_3 rfl rfl ?_
  refine u_callVv [.int (nI l), .int (nI o)] [.ref (G b)] 2 (c_X6_mergeFault lu Dg E N G shp σ hM f0 f1 f2 f3 f4 f5 f6 hI (nI l) (nI o)) (ci := 6) (C := RX6) (T := TX6) (NF := 13) hM.n hM.s rfl gX6_merge_X6_mergeFault rfl rfl rfl (by decide +kernel) rfl ⟨Nat.le_of_ble_eq_true rfl, Nat.le_of_ble_eq_true rfl⟩ ⟨Nat.le_of_ble_eq_true rfl, Nat.le_of_ble_eq_true rfl⟩ (Nat.le_of_ble_eq_true rfl) rfl dX6_merge_4 ?_
  refine v_topi (nI 0) (congrArg nI (hf)) ?_
  refine u_callVv [.int (nI 0)] [] 1 (c_X6_holds lu Dg E N G shp σ hM f0 f1 f2 f3 f4 f5 f6 0 (by omega)) (ci := 6) (C := RX6) (T := TX6) (NF := 13) hM.n hM.s rfl gX6_merge_X6_holds rfl rfl rfl (by decide +kernel) rfl ⟨Nat.le_of_ble_eq_true rfl, Nat.le_of_ble_eq_true rfl⟩ ⟨Nat.le_of_ble_eq_true rfl, Nat.le_of_ble_eq_true rfl⟩ (Nat.le_of_ble_eq_true rfl) rfl dX6_merge_7 ?_
  refine v_if_neB 15 dX6_merge_10 rfl (fun h10 => ?_) (fun h10 => ?_)
  · skip
    refine v_aload_n 0 dX6_merge_15 rfl rfl ?_
    refine u_callVn [] [] 0 (c_X6_remember lu Dg E N G shp σ hM (upd f0 0 (nI 0)) f1 f2 f3 f4 f5 f6 (m := m) (by rw [upd_ap, if_neg (by omega)]; exact hm) h14) (ci := 6) (C := RX6) (T := TX6) (NF := 13) hM.n hM.s rfl gX6_merge_X6_remember rfl rfl rfl (by decide +kernel) rfl ⟨Nat.le_of_ble_eq_true rfl, Nat.le_of_ble_eq_true rfl⟩ ⟨Nat.le_of_ble_eq_true rfl, Nat.le_of_ble_eq_true rfl⟩ (Nat.le_of_ble_eq_true rfl) rfl dX6_merge_16 ?_
    refine v_aload_n 0 dX6_merge_19 rfl rfl ?_
    refine v_iload_n 1 dX6_merge_20 rfl rfl ?_
    refine v_iload_n 2 dX6_merge_21 rfl rfl ?_
    refine u_callVv [.int (nI l), .int (nI o)] [] 2 (c_X6_merges lu Dg E N G shp σ hM (upd (upd f0 0 (nI 0)) 5 (nI (min (m + 1) 14))) f1 f2 (remF f1 f3 m) f4 f5 f6 hI hk.1 hk.2.1 hk.2.2.1 hk.2.2.2) (ci := 6) (C := RX6) (T := TX6) (NF := 13) hM.n hM.s rfl gX6_merge_X6_merges rfl rfl rfl (by decide +kernel) rfl ⟨Nat.le_of_ble_eq_true rfl, Nat.le_of_ble_eq_true rfl⟩ ⟨Nat.le_of_ble_eq_true rfl, Nat.le_of_ble_eq_true rfl⟩ (Nat.le_of_ble_eq_true rfl) rfl dX6_merge_22 ?_
    refine v_iret rfl dX6_merge_25 ⟨congrArg (fun z => some (Value.int z)) ?_, congrArg (φ shp) ?_⟩
    · rfl
    · rfl
  · skip
    exact absurd rfl h10

set_option maxHeartbeats 4000000 in
set_option maxRecDepth 100000 in
/-- minutes_1 -/
theorem c_X6_minutes_1 (lu : Launch) (Dg : va_G) (E : Nat → ClassId) (N : Nat) (G : Nat → Nat) (shp : Nat → (Nat → Int32) → va_E) (σ : Nat → Nat → Int32) {b : Nat} (hM : ModS E G shp N b) (f0 f1 f2 f3 f4 f5 f6 : Nat → Int32)  (x : Int32) (hx : ¬ (nI 1 ≤ x ∧ x ≤ nI 60))  : CS lu yX6_minutes wsX6_minutes { frames := 5, cells := 0, slots := 0, locals := 109 } Dg E N G shp (mk7 σ b f0 f1 f2 f3 f4 f5 f6) [.ref (G b), .int x] (some (.int (nI 0))) (mk7 σ b (upd f0 0 (nI 1)) f1 f2 f3 f4 f5 f6) := by
  refine CS.of (cc := cX6_minutes) (maxL := 2) (ret := (some .int)) (by decide) rfl (Nat.le_of_ble_eq_true rfl) ?_
  intro p_ e_ s_ m_ args_ below_ meth_ c_
  refine v_eq (pc' := 0) (st' := []) rfl rfl ?_
  refine v_loc [0, 1] [(0, .ref (G b)), (1, .int x)] rfl ?_
  refine v_aload_n 0 dX6_minutes_0 rfl rfl ?_
  refine v_iload_n 1 dX6_minutes_1 rfl rfl ?_
  refine v_iconst (nI 1) dX6_minutes_2 (by decide +kernel) ?_
  refine v_bipush (nI 60) dX6_minutes_3 (by decide +kernel) ?_
  refine u_callSv [.int x, .int (nI 1), .int (nI 60)] [.ref (G b)] 3 (c_X6_in lu Dg E N G shp (mk7 σ b f0 f1 f2 f3 f4 f5 f6) (x) (nI 1) (nI 60)) gX6_minutes_X6_in rfl rfl rfl (by decide +kernel) rfl ⟨Nat.le_of_ble_eq_true rfl, Nat.le_of_ble_eq_true rfl⟩ ⟨Nat.le_of_ble_eq_true rfl, Nat.le_of_ble_eq_true rfl⟩ (Nat.le_of_ble_eq_true rfl) rfl dX6_minutes_5 ?_
  refine v_if_eqB 15 dX6_minutes_8 rfl (fun h8 => ?_) (fun h8 => ?_)
  · skip
    refine v_iconst (nI 1) dX6_minutes_15 (by decide +kernel) ?_
    refine u_callVv [.int (nI 1)] [] 1 (c_X6_holds lu Dg E N G shp σ hM f0 f1 f2 f3 f4 f5 f6 1 (by omega)) (ci := 6) (C := RX6) (T := TX6) (NF := 13) hM.n hM.s rfl gX6_minutes_X6_holds rfl rfl rfl (by decide +kernel) rfl ⟨Nat.le_of_ble_eq_true rfl, Nat.le_of_ble_eq_true rfl⟩ ⟨Nat.le_of_ble_eq_true rfl, Nat.le_of_ble_eq_true rfl⟩ (Nat.le_of_ble_eq_true rfl) rfl dX6_minutes_16 ?_
    refine v_if_neB 24 dX6_minutes_19 rfl (fun h19 => ?_) (fun h19 => ?_)
    · skip
      exact absurd h19 (by decide)
    · skip
      refine v_iconst (nI 0) dX6_minutes_22 (by decide +kernel) ?_
      refine v_iret rfl dX6_minutes_23 ⟨congrArg (fun z => some (Value.int z)) ?_, congrArg (φ shp) ?_⟩
      · rfl
      · rfl
  · skip
    exact absurd h8 hx

set_option maxHeartbeats 4000000 in
set_option maxRecDepth 100000 in
/-- minutes_0 -/
theorem c_X6_minutes_0 (lu : Launch) (Dg : va_G) (E : Nat → ClassId) (N : Nat) (G : Nat → Nat) (shp : Nat → (Nat → Int32) → va_E) (σ : Nat → Nat → Int32) {b : Nat} (hM : ModS E G shp N b) (f0 f1 f2 f3 f4 f5 f6 : Nat → Int32) {m : Nat} (hm : f0 5 = nI m) (h14 : m ≤ 14) {k : Nat} (h1 : 1 ≤ k) (h60 : k ≤ 60) (hJ : ∀ j, j < 60 → ∃ T, Inv T (goByS f1 j))  : CS lu yX6_minutes wsX6_minutes { frames := 5, cells := 0, slots := 0, locals := 109 } Dg E N G shp (mk7 σ b f0 f1 f2 f3 f4 f5 f6) [.ref (G b), .int (nI k)] (some (.int (nI (goByN f1 k)))) (mk7 σ b (upd (upd f0 0 (nI 0)) 5 (nI (min (m + 1) 14))) (goByS f1 k) f2 (remF f1 f3 m) f4 f5 f6) := by
  refine CS.of (cc := cX6_minutes) (maxL := 2) (ret := (some .int)) (by decide) rfl (Nat.le_of_ble_eq_true rfl) ?_
  intro p_ e_ s_ m_ args_ below_ meth_ c_
  refine v_eq (pc' := 0) (st' := []) rfl rfl ?_
  refine v_loc [0, 1] [(0, .ref (G b)), (1, .int (nI k))] rfl ?_
  refine v_aload_n 0 dX6_minutes_0 rfl rfl ?_
  refine v_iload_n 1 dX6_minutes_1 rfl rfl ?_
  refine v_iconst (nI 1) dX6_minutes_2 (by decide +kernel) ?_
  refine v_bipush (nI 60) dX6_minutes_3 (by decide +kernel) ?_
  refine u_callSv [.int (nI k), .int (nI 1), .int (nI 60)] [.ref (G b)] 3 (c_X6_in lu Dg E N G shp (mk7 σ b f0 f1 f2 f3 f4 f5 f6) (nI k) (nI 1) (nI 60)) gX6_minutes_X6_in rfl rfl rfl (by decide +kernel) rfl ⟨Nat.le_of_ble_eq_true rfl, Nat.le_of_ble_eq_true rfl⟩ ⟨Nat.le_of_ble_eq_true rfl, Nat.le_of_ble_eq_true rfl⟩ (Nat.le_of_ble_eq_true rfl) rfl dX6_minutes_5 ?_
  refine v_if_eqB 15 dX6_minutes_8 rfl (fun h8 => ?_) (fun h8 => ?_)
  · skip
    exact absurd ⟨(nI_leI (by omega) (by omega)).mpr (by omega), (nI_leI (by omega) (by omega)).mpr (by omega)⟩ h8
  · skip
    refine v_iconst (nI 0) dX6_minutes_11 (by decide +kernel) ?_
    refine v_goto 16 dX6_minutes_12 rfl ?_
    refine u_callVv [.int (nI 0)] [] 1 (c_X6_holds lu Dg E N G shp σ hM f0 f1 f2 f3 f4 f5 f6 0 (by omega)) (ci := 6) (C := RX6) (T := TX6) (NF := 13) hM.n hM.s rfl gX6_minutes_X6_holds rfl rfl rfl (by decide +kernel) rfl ⟨Nat.le_of_ble_eq_true rfl, Nat.le_of_ble_eq_true rfl⟩ ⟨Nat.le_of_ble_eq_true rfl, Nat.le_of_ble_eq_true rfl⟩ (Nat.le_of_ble_eq_true rfl) rfl dX6_minutes_16 ?_
    refine v_if_neB 24 dX6_minutes_19 rfl (fun h19 => ?_) (fun h19 => ?_)
    · skip
      refine v_aload_n 0 dX6_minutes_24 rfl rfl ?_
      refine u_callVn [] [] 0 (c_X6_remember lu Dg E N G shp σ hM (upd f0 0 (nI 0)) f1 f2 f3 f4 f5 f6 (m := m) (by rw [upd_ap, if_neg (by omega)]; exact hm) h14) (ci := 6) (C := RX6) (T := TX6) (NF := 13) hM.n hM.s rfl gX6_minutes_X6_remember rfl rfl rfl (by decide +kernel) rfl ⟨Nat.le_of_ble_eq_true rfl, Nat.le_of_ble_eq_true rfl⟩ ⟨Nat.le_of_ble_eq_true rfl, Nat.le_of_ble_eq_true rfl⟩ (Nat.le_of_ble_eq_true rfl) rfl dX6_minutes_25 ?_
      refine v_aload_n 0 dX6_minutes_28 rfl rfl ?_
      refine v_iload_n 1 dX6_minutes_29 rfl rfl ?_
      refine u_callVv [.int (nI k)] [] 1 (c_X6_goBy lu Dg E N G shp σ hM (upd (upd f0 0 (nI 0)) 5 (nI (min (m + 1) 14))) f1 f2 (remF f1 f3 m) f4 f5 f6 k (by omega) (fun j hj => hJ j (by omega))) (ci := 6) (C := RX6) (T := TX6) (NF := 13) hM.n hM.s rfl gX6_minutes_X6_goBy rfl rfl rfl (by decide +kernel) rfl ⟨Nat.le_of_ble_eq_true rfl, Nat.le_of_ble_eq_true rfl⟩ ⟨Nat.le_of_ble_eq_true rfl, Nat.le_of_ble_eq_true rfl⟩ (Nat.le_of_ble_eq_true rfl) rfl dX6_minutes_30 ?_
      refine v_iret rfl dX6_minutes_33 ⟨congrArg (fun z => some (Value.int z)) ?_, congrArg (φ shp) ?_⟩
      · rfl
      · rfl
    · skip
      exact absurd rfl h19
