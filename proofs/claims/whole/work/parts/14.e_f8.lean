/-- the text's character at p; beyond its end -1 -/
noncomputable def chrT (t : Nat → Int32) (lz p : Nat) : Int32 := ic (p < lz) (t p) (-1)
def tkB (t : Nat → Int32) (lz : Nat) (lo hi : Int32) (p : Nat) : Prop := lo ≤ chrT t lz p ∧ chrT t lz p ≤ hi
noncomputable def tkN (t : Nat → Int32) (lz : Nat) (lo hi : Int32) (p : Nat) : Nat := ic (tkB t lz lo hi p) (p + 1) p
theorem st2_st2 (σ : Nat → Nat → Int32) (n k : Nat) (a b : Int32) : st2 (st2 σ n k a) n k b = st2 σ n k b := by
  funext n9 k9
  rw [st2_eq, st2_eq, st2_eq]
  by_cases h : n9 = n ∧ k9 = k
  · rw [if_pos h, if_pos h]
  · rw [if_neg h, if_neg h, if_neg h]
theorem st2_row (σ : Nat → Nat → Int32) {n m : Nat} (h : m ≠ n) (k : Nat) (a : Int32) : st2 σ n k a m = σ m := by
  funext z
  rw [st2_eq, if_neg (fun q => h q.1)]
set_option maxRecDepth 100000 in
theorem inX0_charAt_X0 : ∀ w ∈ wsX00, w ∈ wsX0_charAt := by decide +kernel
set_option maxHeartbeats 4000000 in
set_option maxRecDepth 100000 in
/-- Day.charAt -/
theorem c_X0_charAt (lu : Launch) (Dg : va_G) (E : Nat → ClassId) (N : Nat) (G : Nat → Nat) (shp : Nat → (Nat → Int32) → va_E) (σ : Nat → Nat → Int32) {x : Nat} (hX : DayS E G shp N x)  {lz : Nat} (hl : σ x 1 = nI lz) (h100 : lz ≤ 100) {p : Nat} (hp : p < 2 ^ 31)  : CS lu yX0_charAt wsX0_charAt { frames := 0, cells := 0, slots := 0, locals := 0 } Dg E N G shp σ [.ref (G x), .int (nI p)] (some (.int (chrT (σ (x + 1)) lz p))) σ := by
  refine CS.of (cc := cX0_charAt) (maxL := 2) (ret := (some .int)) (by decide) rfl (Nat.le_of_ble_eq_true rfl) ?_
  intro p_ e_ s_ m_ args_ below_ meth_ c_
  refine v_eq (pc' := 0) (st' := []) rfl rfl ?_
  refine v_loc [0, 1] [(0, .ref (G x)), (1, .int (nI p))] rfl ?_
  refine v_iload_n 1 dX0_charAt_0 rfl rfl ?_
  refine v_if_ltN (by omega) dX0_charAt_1 ⟨21, rfl⟩ ?_
  refine v_iload_n 1 dX0_charAt_4 rfl rfl ?_
  refine v_aload_n 0 dX0_charAt_5 rfl rfl ?_
  refine u_geti (k := 1) (C := RX0) (T := TX0) (NF := 3) hX.n hX.2.1 rfl rfl inX0_charAt_X0 (by decide) (by decide +kernel) rfl dX0_charAt_6 ?_
  refine v_topi (nI lz) (hl) ?_
  refine v_icmp_geN 21 (by omega) (by omega) dX0_charAt_9 rfl (fun h9 => ?_) (fun h9 => ?_)
  · skip
    refine v_iconst ((-1)) dX0_charAt_21 (by decide +kernel) ?_
    refine v_iret rfl dX0_charAt_22 ⟨congrArg (fun z => some (Value.int z)) ?_, congrArg (φ shp) ?_⟩
    · exact (ic_f (P := p < lz) (by omega)).symm
    · rfl
  · skip
    refine v_aload_n 0 dX0_charAt_12 rfl rfl ?_
    refine u_getr (k := 0) (C := RX0) (T := TX0) (NF := 3) hX.n hX.2.1 rfl rfl inX0_charAt_X0 (by decide) (by decide +kernel) rfl dX0_charAt_13 ?_
    refine v_iload_n 1 dX0_charAt_16 rfl rfl ?_
    refine u_iald p hX.1 hX.2.2 rfl (by omega) (by decide) dX0_charAt_17 ?_
    refine v_goto 22 dX0_charAt_18 rfl ?_
    refine v_iret rfl dX0_charAt_22 ⟨congrArg (fun z => some (Value.int z)) ?_, congrArg (φ shp) ?_⟩
    · exact (ic_t (P := p < lz) (by omega)).symm
    · rfl

set_option maxHeartbeats 4000000 in
set_option maxRecDepth 100000 in
/-- Day.digitAt -/
theorem c_X0_digitAt (lu : Launch) (Dg : va_G) (E : Nat → ClassId) (N : Nat) (G : Nat → Nat) (shp : Nat → (Nat → Int32) → va_E) (σ : Nat → Nat → Int32) {x : Nat} (hX : DayS E G shp N x)  {lz : Nat} (hl : σ x 1 = nI lz) (h100 : lz ≤ 100) {p : Nat} (hp : p < 2 ^ 31)  : CS lu yX0_digitAt wsX0_digitAt { frames := 1, cells := 0, slots := 0, locals := 21 } Dg E N G shp σ [.ref (G x), .int (nI p)] (some (.int (chrT (σ (x + 1)) lz p - nI 48))) σ := by
  refine CS.of (cc := cX0_digitAt) (maxL := 2) (ret := (some .int)) (by decide) rfl (Nat.le_of_ble_eq_true rfl) ?_
  intro p_ e_ s_ m_ args_ below_ meth_ c_
  refine v_eq (pc' := 0) (st' := []) rfl rfl ?_
  refine v_loc [0, 1] [(0, .ref (G x)), (1, .int (nI p))] rfl ?_
  refine v_aload_n 0 dX0_digitAt_0 rfl rfl ?_
  refine v_iload_n 1 dX0_digitAt_1 rfl rfl ?_
  refine u_callVv [.int (nI p)] [] 1 (c_X0_charAt lu Dg E N G shp σ hX (lz := lz) hl h100 (p := p) (by omega)) (ci := 0) (C := RX0) (T := TX0) (NF := 3) hX.n hX.2.1 rfl gX0_digitAt_X0_charAt rfl rfl rfl (by decide +kernel) rfl ⟨Nat.le_of_ble_eq_true rfl, Nat.le_of_ble_eq_true rfl⟩ ⟨Nat.le_of_ble_eq_true rfl, Nat.le_of_ble_eq_true rfl⟩ (Nat.le_of_ble_eq_true rfl) rfl dX0_digitAt_2 ?_
  refine v_bipush (nI 48) dX0_digitAt_5 (by decide +kernel) ?_
  refine v_isub dX0_digitAt_7 ?_
  refine v_iret rfl dX0_digitAt_8 ⟨congrArg (fun z => some (Value.int z)) ?_, congrArg (φ shp) ?_⟩
  · rfl
  · rfl

set_option maxHeartbeats 4000000 in
set_option maxRecDepth 100000 in
/-- Day.numberAt -/
theorem c_X0_numberAt (lu : Launch) (Dg : va_G) (E : Nat → ClassId) (N : Nat) (G : Nat → Nat) (shp : Nat → (Nat → Int32) → va_E) (σ : Nat → Nat → Int32) {x : Nat} (hX : DayS E G shp N x)  {lz : Nat} (hl : σ x 1 = nI lz) (h100 : lz ≤ 100) {p : Nat} (hp : p < 2 ^ 30)  : CS lu yX0_numberAt wsX0_numberAt { frames := 2, cells := 0, slots := 0, locals := 42 } Dg E N G shp σ [.ref (G x), .int (nI p)] (some (.int (nI 10 * (chrT (σ (x + 1)) lz p - nI 48) + (chrT (σ (x + 1)) lz (p + 1) - nI 48)))) σ := by
  refine CS.of (cc := cX0_numberAt) (maxL := 2) (ret := (some .int)) (by decide) rfl (Nat.le_of_ble_eq_true rfl) ?_
  intro p_ e_ s_ m_ args_ below_ meth_ c_
  refine v_eq (pc' := 0) (st' := []) rfl rfl ?_
  refine v_loc [0, 1] [(0, .ref (G x)), (1, .int (nI p))] rfl ?_
  refine v_bipush (nI 10) dX0_numberAt_0 (by decide +kernel) ?_
  refine v_aload_n 0 dX0_numberAt_2 rfl rfl ?_
  refine v_iload_n 1 dX0_numberAt_3 rfl rfl ?_
  refine u_callVv [.int (nI p)] [.int (nI 10)] 1 (c_X0_digitAt lu Dg E N G shp σ hX (lz := lz) hl h100 (p := p) (by omega)) (ci := 0) (C := RX0) (T := TX0) (NF := 3) hX.n hX.2.1 rfl gX0_numberAt_X0_digitAt rfl rfl rfl (by decide +kernel) rfl ⟨Nat.le_of_ble_eq_true rfl, Nat.le_of_ble_eq_true rfl⟩ ⟨Nat.le_of_ble_eq_true rfl, Nat.le_of_ble_eq_true rfl⟩ (Nat.le_of_ble_eq_true rfl) rfl dX0_numberAt_4 ?_
  refine v_imul dX0_numberAt_7 ?_
  refine v_aload_n 0 dX0_numberAt_8 rfl rfl ?_
  refine v_iload_n 1 dX0_numberAt_9 rfl rfl ?_
  refine v_iconst (nI 1) dX0_numberAt_10 (by decide +kernel) ?_
  refine v_iaddN dX0_numberAt_11 ?_
  refine u_callVv [.int (nI (p + 1))] [.int ((nI 10) * (chrT (σ (x + 1)) lz p - nI 48))] 1 (c_X0_digitAt lu Dg E N G shp σ hX (lz := lz) hl h100 (p := p + 1) (by omega)) (ci := 0) (C := RX0) (T := TX0) (NF := 3) hX.n hX.2.1 rfl gX0_numberAt_X0_digitAt rfl rfl rfl (by decide +kernel) rfl ⟨Nat.le_of_ble_eq_true rfl, Nat.le_of_ble_eq_true rfl⟩ ⟨Nat.le_of_ble_eq_true rfl, Nat.le_of_ble_eq_true rfl⟩ (Nat.le_of_ble_eq_true rfl) rfl dX0_numberAt_12 ?_
  refine v_iadd dX0_numberAt_15 ?_
  refine v_iret rfl dX0_numberAt_16 ⟨congrArg (fun z => some (Value.int z)) ?_, congrArg (φ shp) ?_⟩
  · rfl
  · rfl

set_option maxHeartbeats 4000000 in
set_option maxRecDepth 100000 in
/-- Day.isCommand -/
theorem c_X0_isCommand (lu : Launch) (Dg : va_G) (E : Nat → ClassId) (N : Nat) (G : Nat → Nat) (shp : Nat → (Nat → Int32) → va_E) (σ : Nat → Nat → Int32) {x : Nat} (hX : DayS E G shp N x)  {lz : Nat} (hl : σ x 1 = nI lz) (h100 : lz ≤ 100) {p : Nat} (hp : p < 2 ^ 31)  : CS lu yX0_isCommand wsX0_isCommand { frames := 1, cells := 0, slots := 0, locals := 21 } Dg E N G shp σ [.ref (G x), .int (nI p)] (some (.int (bi (nI 57 < chrT (σ (x + 1)) lz p)))) σ := by
  refine CS.of (cc := cX0_isCommand) (maxL := 2) (ret := (some .boolean)) (by decide) rfl (Nat.le_of_ble_eq_true rfl) ?_
  intro p_ e_ s_ m_ args_ below_ meth_ c_
  refine v_eq (pc' := 0) (st' := []) rfl rfl ?_
  refine v_loc [0, 1] [(0, .ref (G x)), (1, .int (nI p))] rfl ?_
  refine v_aload_n 0 dX0_isCommand_0 rfl rfl ?_
  refine v_iload_n 1 dX0_isCommand_1 rfl rfl ?_
  refine u_callVv [.int (nI p)] [] 1 (c_X0_charAt lu Dg E N G shp σ hX (lz := lz) hl h100 (p := p) (by omega)) (ci := 0) (C := RX0) (T := TX0) (NF := 3) hX.n hX.2.1 rfl gX0_isCommand_X0_charAt rfl rfl rfl (by decide +kernel) rfl ⟨Nat.le_of_ble_eq_true rfl, Nat.le_of_ble_eq_true rfl⟩ ⟨Nat.le_of_ble_eq_true rfl, Nat.le_of_ble_eq_true rfl⟩ (Nat.le_of_ble_eq_true rfl) rfl dX0_isCommand_2 ?_
  refine v_bipush (nI 57) dX0_isCommand_5 (by decide +kernel) ?_
  refine v_icmp_le 14 dX0_isCommand_7 rfl (fun h7 => ?_) (fun h7 => ?_)
  · skip
    refine v_iconst (nI 0) dX0_isCommand_14 (by decide +kernel) ?_
    refine v_zret rfl (by decide +kernel) dX0_isCommand_15 ⟨congrArg (fun z => some (Value.int z)) ?_, congrArg (φ shp) ?_⟩
    · exact bi_nf (Int32.not_lt.mpr h7)
    · rfl
  · skip
    refine v_iconst (nI 1) dX0_isCommand_10 (by decide +kernel) ?_
    refine v_goto 15 dX0_isCommand_11 rfl ?_
    refine v_zret rfl (by decide +kernel) dX0_isCommand_15 ⟨congrArg (fun z => some (Value.int z)) ?_, congrArg (φ shp) ?_⟩
    · exact bi_nt (Int32.not_le.mp h7)
    · rfl

set_option maxRecDepth 100000 in
theorem inX0_take_X0 : ∀ w ∈ wsX00, w ∈ wsX0_take := by decide +kernel
set_option maxHeartbeats 4000000 in
set_option maxRecDepth 100000 in
/-- Day.take -/
theorem c_X0_take (lu : Launch) (Dg : va_G) (E : Nat → ClassId) (N : Nat) (G : Nat → Nat) (shp : Nat → (Nat → Int32) → va_E) (σ : Nat → Nat → Int32) {x : Nat} (hX : DayS E G shp N x)  {lz : Nat} (hl : σ x 1 = nI lz) (h100 : lz ≤ 100) {p : Nat} (hp : p < 2 ^ 30) (lo hi : Int32)  : CS lu yX0_take wsX0_take { frames := 1, cells := 0, slots := 0, locals := 21 } Dg E N G shp (st2 σ x 2 (nI p)) [.ref (G x), .int lo, .int hi] (some (.int (bi (tkB (σ (x + 1)) lz lo hi p)))) (st2 σ x 2 (nI (tkN (σ (x + 1)) lz lo hi p))) := by
  refine CS.of (cc := cX0_take) (maxL := 4) (ret := (some .boolean)) (by decide) rfl (Nat.le_of_ble_eq_true rfl) ?_
  intro p_ e_ s_ m_ args_ below_ meth_ c_
  refine v_eq (pc' := 0) (st' := []) rfl rfl ?_
  refine v_loc [0, 1, 2] [(0, .ref (G x)), (1, .int lo), (2, .int hi)] rfl ?_
  have e0 : st2 σ x 2 (nI p) (x + 1) = σ (x + 1) := st2_row σ (by omega) _ _
  have hl0 : st2 σ x 2 (nI p) x 1 = nI lz := by rw [st2_eq, if_neg (by omega)]; exact hl
  refine v_aload_n 0 dX0_take_0 rfl rfl ?_
  refine v_aload_n 0 dX0_take_1 rfl rfl ?_
  refine u_geti (k := 2) (C := RX0) (T := TX0) (NF := 3) hX.n hX.2.1 rfl rfl inX0_take_X0 (by decide) (by decide +kernel) rfl dX0_take_2 ?_
  refine v_topi (nI p) (st2_same _ _ _ _) ?_
  refine u_callVv [.int (nI p)] [] 1 (c_X0_charAt lu Dg E N G shp (st2 σ x 2 (nI p)) hX (lz := lz) hl0 h100 (p := p) (by omega)) (ci := 0) (C := RX0) (T := TX0) (NF := 3) hX.n hX.2.1 rfl gX0_take_X0_charAt rfl rfl rfl (by decide +kernel) rfl ⟨Nat.le_of_ble_eq_true rfl, Nat.le_of_ble_eq_true rfl⟩ ⟨Nat.le_of_ble_eq_true rfl, Nat.le_of_ble_eq_true rfl⟩ (Nat.le_of_ble_eq_true rfl) rfl dX0_take_5 ?_
  refine v_topi (chrT (σ (x + 1)) lz p) (by rw [e0]) ?_
  refine v_istore_n [(3, .int (chrT (σ (x + 1)) lz p)), (0, .ref (G x)), (1, .int lo), (2, .int hi)] dX0_take_8 rfl (by decide) rfl ?_
  refine v_iload_n 0 dX0_take_9 rfl rfl ?_
  refine v_iload_n 2 dX0_take_10 rfl rfl ?_
  refine v_icmp_lt 19 dX0_take_11 rfl (fun h11 => ?_) (fun h11 => ?_)
  · skip
    refine v_iconst (nI 0) dX0_take_19 (by decide +kernel) ?_
    refine v_zret rfl (by decide +kernel) dX0_take_20 ⟨congrArg (fun z => some (Value.int z)) ?_, congrArg (φ shp) ?_⟩
    · first | exact bi_nf (fun z9 => Int32.not_le.mpr h11 z9.1) | exact bi_nf (fun z9 => h16 z9.2)
    · unfold tkN; first | rw [ic_f (P := tkB (σ (x + 1)) lz lo hi p) (fun z9 => Int32.not_le.mpr h11 z9.1)] | rw [ic_f (P := tkB (σ (x + 1)) lz lo hi p) (fun z9 => h16 z9.2)]
  · skip
    refine v_iload_n 0 dX0_take_14 rfl rfl ?_
    refine v_iload_n 3 dX0_take_15 rfl rfl ?_
    refine v_icmp_le 21 dX0_take_16 rfl (fun h16 => ?_) (fun h16 => ?_)
    · skip
      refine v_aload_n 1 dX0_take_21 rfl rfl ?_
      refine v_dup dX0_take_22 rfl ?_
      refine u_geti (k := 2) (C := RX0) (T := TX0) (NF := 3) hX.n hX.2.1 rfl rfl inX0_take_X0 (by decide) (by decide +kernel) rfl dX0_take_23 ?_
      refine v_topi (nI p) (st2_same _ _ _ _) ?_
      refine v_iconst (nI 1) dX0_take_26 (by decide +kernel) ?_
      refine v_iaddN dX0_take_27 ?_
      refine u_puti (k := 2) (C := RX0) (T := TX0) (NF := 3) (ty := .int) hX.n hX.2.1 rfl rfl inX0_take_X0 tyX0 tyX0_ok nmX0 (by decide) (by decide +kernel) rfl rfl (by decide +kernel) rfl rfl dX0_take_28 ?_
      generalize hσ1 : st2 (st2 σ x 2 (nI p)) x 2 (nI (p + 1)) = σ1
      refine v_iconst (nI 1) dX0_take_31 (by decide +kernel) ?_
      refine v_zret rfl (by decide +kernel) dX0_take_32 ⟨congrArg (fun z => some (Value.int z)) ?_, congrArg (φ shp) ?_⟩
      · exact bi_nt ⟨Int32.not_lt.mp h11, h16⟩
      · subst hσ1; unfold tkN; rw [ic_t (P := tkB (σ (x + 1)) lz lo hi p) ⟨Int32.not_lt.mp h11, h16⟩]; exact st2_st2 _ _ _ _ _
    · skip
      refine v_iconst (nI 0) dX0_take_19 (by decide +kernel) ?_
      refine v_zret rfl (by decide +kernel) dX0_take_20 ⟨congrArg (fun z => some (Value.int z)) ?_, congrArg (φ shp) ?_⟩
      · first | exact bi_nf (fun z9 => Int32.not_le.mpr h11 z9.1) | exact bi_nf (fun z9 => h16 z9.2)
      · unfold tkN; first | rw [ic_f (P := tkB (σ (x + 1)) lz lo hi p) (fun z9 => Int32.not_le.mpr h11 z9.1)] | rw [ic_f (P := tkB (σ (x + 1)) lz lo hi p) (fun z9 => h16 z9.2)]
