set_option maxRecDepth 100000 in
theorem inX4_end_X4 : ∀ w ∈ wsX40, w ∈ wsX4_end := by decide +kernel
set_option maxHeartbeats 4000000 in
set_option maxRecDepth 100000 in
/-- Person.end -/
theorem c_X4_end (lu : Launch) (Dg : va_G) (E : Nat → ClassId) (N : Nat) (G : Nat → Nat) (shp : Nat → (Nat → Int32) → va_E) (σ : Nat → Nat → Int32) {x : Nat} (hx : PersS G shp N x) (f : Int32)  : CS lu yX4_end wsX4_end { frames := 0, cells := 0, slots := 0, locals := 0 } Dg E N G shp σ [.ref (G x), .int f] none (st2 (st2 σ x 1 (-1)) x 2 f) := by
  refine CS.of (cc := cX4_end) (maxL := 2) (ret := none) (by decide) rfl (Nat.le_of_ble_eq_true rfl) ?_
  intro p_ e_ s_ m_ args_ below_ meth_ c_
  refine v_eq (pc' := 0) (st' := []) rfl rfl ?_
  refine v_loc [0, 1] [(0, .ref (G x)), (1, .int f)] rfl ?_
  refine v_aload_n 0 dX4_end_0 rfl rfl ?_
  refine v_iconst ((-1)) dX4_end_1 (by decide +kernel) ?_
  refine u_puti (k := 1) (C := RX4) (T := TX4) (NF := 9) (ty := .int) hx.1 hx.2 rfl rfl inX4_end_X4 tyX4 tyX4_ok nmX4 (by decide) (by decide +kernel) rfl rfl (by decide +kernel) rfl rfl dX4_end_2 ?_
  generalize hσ1 : st2 σ x 1 ((-1)) = σ1
  refine v_aload_n 0 dX4_end_5 rfl rfl ?_
  refine v_iload_n 1 dX4_end_6 rfl rfl ?_
  refine u_puti (k := 2) (C := RX4) (T := TX4) (NF := 9) (ty := .int) hx.1 hx.2 rfl rfl inX4_end_X4 tyX4 tyX4_ok nmX4 (by decide) (by decide +kernel) rfl rfl (by decide +kernel) rfl rfl dX4_end_7 ?_
  generalize hσ2 : st2 σ1 x 2 (f) = σ2
  refine v_vret rfl dX4_end_10 ⟨rfl, congrArg (φ shp) ?_⟩
  · subst hσ1; subst hσ2; rfl

set_option maxRecDepth 100000 in
theorem inX3_isPlace_X3 : ∀ w ∈ wsX30, w ∈ wsX3_isPlace := by decide +kernel
set_option maxHeartbeats 4000000 in
set_option maxRecDepth 100000 in
/-- Line.isPlace -/
theorem c_X3_isPlace (lu : Launch) (Dg : va_G) (E : Nat → ClassId) (N : Nat) (G : Nat → Nat) (shp : Nat → (Nat → Int32) → va_E) (σ : Nat → Nat → Int32) {x : Nat} (hx : LineS E G shp N x) {len : Nat} (hlen : σ x 3 = nI len) (h12 : len ≤ 12) (k : Nat) (hk : k < 2 ^ 31)  : CS lu yX3_isPlace wsX3_isPlace { frames := 0, cells := 0, slots := 0, locals := 0 } Dg E N G shp σ [.ref (G x), .int (nI k)] (some (.int (bi (k < len)))) σ := by
  refine CS.of (cc := cX3_isPlace) (maxL := 2) (ret := (some .boolean)) (by decide) rfl (Nat.le_of_ble_eq_true rfl) ?_
  intro p_ e_ s_ m_ args_ below_ meth_ c_
  refine v_eq (pc' := 0) (st' := []) rfl rfl ?_
  refine v_loc [0, 1] [(0, .ref (G x)), (1, .int (nI k))] rfl ?_
  refine v_iload_n 1 dX3_isPlace_0 rfl rfl ?_
  refine v_if_ltN (by omega) dX3_isPlace_1 ⟨25, rfl⟩ ?_
  refine v_iload_n 1 dX3_isPlace_4 rfl rfl ?_
  refine v_aload_n 0 dX3_isPlace_5 rfl rfl ?_
  refine u_geti (k := 3) (C := RX3) (T := TX3) (NF := 5) hx.n hx.2.1 rfl rfl inX3_isPlace_X3 (by decide) (by decide +kernel) rfl dX3_isPlace_6 ?_
  refine v_topi (nI len) (hlen) ?_
  refine v_icmp_geN 25 (by omega) (by omega) dX3_isPlace_9 rfl (fun h9 => ?_) (fun h9 => ?_)
  · skip
    refine v_iconst (nI 0) dX3_isPlace_25 (by decide +kernel) ?_
    refine v_zret rfl (by decide +kernel) dX3_isPlace_26 ⟨congrArg (fun z => some (Value.int z)) ?_, congrArg (φ shp) ?_⟩
    · exact bi_nf (by omega)
    · rfl
  · skip
    refine v_iload_n 1 dX3_isPlace_12 rfl rfl ?_
    refine v_aload_n 0 dX3_isPlace_13 rfl rfl ?_
    refine u_getr (k := 4) (C := RX3) (T := TX3) (NF := 5) hx.n hx.2.1 rfl rfl inX3_isPlace_X3 (by decide) (by decide +kernel) rfl dX3_isPlace_14 ?_
    refine u_alenI 0 hx.1 hx.2.2 rfl dX3_isPlace_17 ?_
    refine v_icmp_geN 25 (by omega) (by omega) dX3_isPlace_18 rfl (fun h18 => ?_) (fun h18 => ?_)
    · skip
      refine v_iconst (nI 0) dX3_isPlace_25 (by decide +kernel) ?_
      refine v_zret rfl (by decide +kernel) dX3_isPlace_26 ⟨congrArg (fun z => some (Value.int z)) ?_, congrArg (φ shp) ?_⟩
      · exact bi_nf (by omega)
      · rfl
    · skip
      refine v_iconst (nI 1) dX3_isPlace_21 (by decide +kernel) ?_
      refine v_goto 26 dX3_isPlace_22 rfl ?_
      refine v_zret rfl (by decide +kernel) dX3_isPlace_26 ⟨congrArg (fun z => some (Value.int z)) ?_, congrArg (φ shp) ?_⟩
      · exact bi_nt (by omega)
      · rfl

set_option maxRecDepth 100000 in
theorem inX3_who_X3 : ∀ w ∈ wsX30, w ∈ wsX3_who := by decide +kernel
set_option maxHeartbeats 4000000 in
set_option maxRecDepth 100000 in
/-- Line.who -/
theorem c_X3_who (lu : Launch) (Dg : va_G) (E : Nat → ClassId) (N : Nat) (G : Nat → Nat) (shp : Nat → (Nat → Int32) → va_E) (σ : Nat → Nat → Int32) {x : Nat} (hx : LineS E G shp N x) {len : Nat} (hlen : σ x 3 = nI len) (h12 : len ≤ 12) (k : Nat) (hk : k < 2 ^ 31)  : CS lu yX3_who wsX3_who { frames := 1, cells := 0, slots := 0, locals := 21 } Dg E N G shp σ [.ref (G x), .int (nI k)] (some (.int (if k < len then σ (x + 1) k else -1))) σ := by
  refine CS.of (cc := cX3_who) (maxL := 2) (ret := (some .int)) (by decide) rfl (Nat.le_of_ble_eq_true rfl) ?_
  intro p_ e_ s_ m_ args_ below_ meth_ c_
  refine v_eq (pc' := 0) (st' := []) rfl rfl ?_
  refine v_loc [0, 1] [(0, .ref (G x)), (1, .int (nI k))] rfl ?_
  refine v_aload_n 0 dX3_who_0 rfl rfl ?_
  refine v_iload_n 1 dX3_who_1 rfl rfl ?_
  refine u_callVv [.int (nI k)] [] 1 (c_X3_isPlace lu Dg E N G shp σ hx hlen h12 k hk) (ci := 3) (C := RX3) (T := TX3) (NF := 5) hx.n hx.2.1 rfl gX3_who_X3_isPlace rfl rfl rfl (by decide +kernel) rfl ⟨Nat.le_of_ble_eq_true rfl, Nat.le_of_ble_eq_true rfl⟩ ⟨Nat.le_of_ble_eq_true rfl, Nat.le_of_ble_eq_true rfl⟩ (Nat.le_of_ble_eq_true rfl) rfl dX3_who_2 ?_
  refine v_if_eqB 17 dX3_who_5 rfl (fun h5 => ?_) (fun h5 => ?_)
  · skip
    refine v_iconst ((-1)) dX3_who_17 (by decide +kernel) ?_
    refine v_iret rfl dX3_who_18 ⟨congrArg (fun z => some (Value.int z)) ?_, congrArg (φ shp) ?_⟩
    · rw [if_neg h5]
    · rfl
  · skip
    refine v_aload_n 0 dX3_who_8 rfl rfl ?_
    refine u_getr (k := 4) (C := RX3) (T := TX3) (NF := 5) hx.n hx.2.1 rfl rfl inX3_who_X3 (by decide) (by decide +kernel) rfl dX3_who_9 ?_
    refine v_iload_n 1 dX3_who_12 rfl rfl ?_
    refine u_iald k hx.1 hx.2.2 rfl (by omega) (by decide) dX3_who_13 ?_
    refine v_goto 18 dX3_who_14 rfl ?_
    refine v_iret rfl dX3_who_18 ⟨congrArg (fun z => some (Value.int z)) ?_, congrArg (φ shp) ?_⟩
    · rw [if_pos h5]
    · rfl

/-- the first place that holds p, out of n places from k on; -1 for none -/
def plG (f : Nat → Int32) (p : Int32) : Nat → Nat → Int32 | 0, _ => -1 | n + 1, k => if f k = p then nI k else plG f p n (k + 1)
set_option maxRecDepth 100000 in
theorem inX3_placeOf_X3 : ∀ w ∈ wsX30, w ∈ wsX3_placeOf := by decide +kernel
set_option maxHeartbeats 4000000 in
set_option maxRecDepth 100000 in
/-- Line.placeOf -/
theorem c_X3_placeOf (lu : Launch) (Dg : va_G) (E : Nat → ClassId) (N : Nat) (G : Nat → Nat) (shp : Nat → (Nat → Int32) → va_E) (σ : Nat → Nat → Int32) {x : Nat} (hx : LineS E G shp N x) {len : Nat} (hlen : σ x 3 = nI len) (h12 : len ≤ 12) (p : Int32)  : CS lu yX3_placeOf wsX3_placeOf { frames := 0, cells := 0, slots := 0, locals := 0 } Dg E N G shp σ [.ref (G x), .int p] (some (.int (plG (σ (x + 1)) p len 0))) σ := by
  refine CS.of (cc := cX3_placeOf) (maxL := 3) (ret := (some .int)) (by decide) rfl (Nat.le_of_ble_eq_true rfl) ?_
  intro p_ e_ s_ m_ args_ below_ meth_ c_
  refine v_eq (pc' := 0) (st' := []) rfl rfl ?_
  refine v_loc [0, 1] [(0, .ref (G x)), (1, .int p)] rfl ?_
  refine v_iconst (nI 0) dX3_placeOf_0 (by decide +kernel) ?_
  refine v_istore_n [(2, .int (nI 0)), (0, .ref (G x)), (1, .int p)] dX3_placeOf_1 rfl (by decide) rfl ?_
  refine v_loc [0, 2, 1] [(2, .int (nI 0)), (1, .int p), (0, .ref (G x))] rfl ?_
  refine u_loop1 (fun n (k : Nat) => k + n = len ∧ plG (σ (x + 1)) p n k = plG (σ (x + 1)) p len 0) (fun (k : Nat) => σ) (fun (k : Nat) => [(2, .int (nI k)), (1, .int p), (0, .ref (G x))]) (len) 0 (⟨by omega, rfl⟩) ?_
  intro n k hI ih
  refine v_iload_n 0 dX3_placeOf_2 rfl rfl ?_
  refine v_aload_n 2 dX3_placeOf_3 rfl rfl ?_
  refine u_geti (k := 3) (C := RX3) (T := TX3) (NF := 5) hx.n hx.2.1 rfl rfl inX3_placeOf_X3 (by decide) (by decide +kernel) rfl dX3_placeOf_4 ?_
  refine v_topi (nI len) (hlen) ?_
  refine v_icmp_geN 37 (by omega) (by omega) dX3_placeOf_7 rfl (fun h7 => ?_) (fun h7 => ?_)
  · skip
    refine v_iconst ((-1)) dX3_placeOf_37 (by decide +kernel) ?_
    refine v_iret rfl dX3_placeOf_38 ⟨congrArg (fun z => some (Value.int z)) ?_, congrArg (φ shp) ?_⟩
    · rw [← hI.2]; obtain rfl : n = 0 := (by omega); rfl
    · rfl
  · skip
    refine v_iload_n 0 dX3_placeOf_10 rfl rfl ?_
    refine v_aload_n 2 dX3_placeOf_11 rfl rfl ?_
    refine u_getr (k := 4) (C := RX3) (T := TX3) (NF := 5) hx.n hx.2.1 rfl rfl inX3_placeOf_X3 (by decide) (by decide +kernel) rfl dX3_placeOf_12 ?_
    refine u_alenI 0 hx.1 hx.2.2 rfl dX3_placeOf_15 ?_
    refine v_icmp_geN 37 (by omega) (by omega) dX3_placeOf_16 rfl (fun h16 => ?_) (fun h16 => ?_)
    · skip
      omega
    · skip
      refine v_aload_n 2 dX3_placeOf_19 rfl rfl ?_
      refine u_getr (k := 4) (C := RX3) (T := TX3) (NF := 5) hx.n hx.2.1 rfl rfl inX3_placeOf_X3 (by decide) (by decide +kernel) rfl dX3_placeOf_20 ?_
      refine v_iload_n 0 dX3_placeOf_23 rfl rfl ?_
      refine u_iald k hx.1 hx.2.2 rfl (by omega) (by decide) dX3_placeOf_24 ?_
      refine v_iload_n 1 dX3_placeOf_25 rfl rfl ?_
      refine v_icmp_ne 31 dX3_placeOf_26 rfl (fun h26 => ?_) (fun h26 => ?_)
      · skip
        refine v_iincN 0 [(2, .int (nI (k + 1))), (1, .int p), (0, .ref (G x))] dX3_placeOf_31 rfl (by decide) rfl ?_
        refine v_goto 2 dX3_placeOf_34 rfl ?_
        refine v_loc [0, 1, 2] [(2, .int (nI (k + 1))), (1, .int p), (0, .ref (G x))] rfl ?_
        exact ih _ (k + 1) (show n - 1 < n by omega) (⟨by omega, by rw [← hI.2]; obtain ⟨j, rfl⟩ : ∃ j, n = j + 1 := ⟨n - 1, by omega⟩; simp only [plG, Nat.add_sub_cancel]; rw [if_neg h26]⟩)
      · skip
        refine v_iload_n 0 dX3_placeOf_29 rfl rfl ?_
        refine v_iret rfl dX3_placeOf_30 ⟨congrArg (fun z => some (Value.int z)) ?_, congrArg (φ shp) ?_⟩
        · rw [← hI.2]; obtain ⟨j, rfl⟩ : ∃ j, n = j + 1 := ⟨n - 1, by omega⟩; simp only [plG]; rw [if_pos (by first | exact h26 | exact Classical.byContradiction h26)]
        · rfl

set_option maxHeartbeats 4000000 in
set_option maxRecDepth 100000 in
/-- of -/
theorem c_X6_of (lu : Launch) (Dg : va_G) (E : Nat → ClassId) (N : Nat) (G : Nat → Nat) (shp : Nat → (Nat → Int32) → va_E) (σ : Nat → Nat → Int32) (p q : Nat)  : CS lu yX6_of wsX6_of { frames := 0, cells := 0, slots := 0, locals := 0 } Dg E N G shp σ [.int (nI p), .int (nI q)] (some (.int (nI (58 + 10 * p + q)))) σ := by
  refine CS.of (cc := cX6_of) (maxL := 2) (ret := (some .int)) (by decide) rfl (Nat.le_of_ble_eq_true rfl) ?_
  intro p_ e_ s_ m_ args_ below_ meth_ c_
  refine v_eq (pc' := 0) (st' := []) rfl rfl ?_
  refine v_loc [0, 1] [(0, .int (nI p)), (1, .int (nI q))] rfl ?_
  refine v_bipush (nI 58) dX6_of_0 (by decide +kernel) ?_
  refine v_bipush (nI 10) dX6_of_2 (by decide +kernel) ?_
  refine v_iload_n 0 dX6_of_4 rfl rfl ?_
  refine v_imulN dX6_of_5 ?_
  refine v_iaddN dX6_of_6 ?_
  refine v_iload_n 1 dX6_of_7 rfl rfl ?_
  refine v_iaddN dX6_of_8 ?_
  refine v_iret rfl dX6_of_9 ⟨congrArg (fun z => some (Value.int z)) ?_, congrArg (φ shp) ?_⟩
  · congr 1; omega
  · rfl
