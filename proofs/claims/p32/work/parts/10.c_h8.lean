theorem ins_s (key : Nat → Nat) (f : Nat → Nat) (k : Nat) : ins key (k + 1) f = if kd key (f (k + 1)) (f k) = true then ins key k (sw f k) else f := rfl
theorem KeyOK.sw {t : Nat → Int32} {key : Nat → Nat} {M k : Nat} {f : Nat → Nat} (h : KeyOK t key M f) (hk : k + 1 < M) : KeyOK t key M (sw f k) := h.set (sw_set hk)
theorem ahead_rw {t : Nat → Int32} {key : Nat → Nat} {a M i j : Nat} {f : Nat → Nat} (h : KeyOK t key M f) (ha : a + M ≤ 58) (hi : i < M) (hj : j < M) : Ahead (rwF t a M f) (f i) (f j) ↔ kR key (f i) (f j) := by
  obtain ⟨p1, p2, p3⟩ := h i hi
  obtain ⟨q1, q2, q3⟩ := h j hj
  exact ahead_k (by rw [rwF_out (by omega)]; exact p2) (by rw [rwF_out (by omega)]; exact q2) p3 q3
set_option maxRecDepth 100000 in
theorem inX1_sortByStanding_X3 : ∀ w ∈ wsX30, w ∈ wsX1_sortByStanding := by decide +kernel
set_option maxHeartbeats 4000000 in
set_option maxRecDepth 100000 in
/-- Hall.sortByStanding -/
theorem c_X1_sortByStanding (lu : Launch) (Dg : va_G) (E : Nat → ClassId) (N : Nat) (G : Nat → Nat) (shp : Nat → (Nat → Int32) → va_E) (σ : Nat → Nat → Int32) {b : Nat} (hH : HallS E G shp N b) (c : Nat → Int32) {l : Nat} (hl : l < 3) {M : Nat} (hln : c (13 + l) = nI M) (h12 : M ≤ 12) {f key : Nat → Nat} (hk : KeyOK c key M f)  : CS lu yX1_sortByStanding wsX1_sortByStanding { frames := 2, cells := 0, slots := 0, locals := 44 } Dg E N G shp (hs σ b (rwF c (22 + 12 * l) M f)) [.ref (G b), .ref (G (b + 7 + 2 * l))] none (hs σ b (rwF c (22 + 12 * l) M (isort key f (M - 1)))) := by
  refine CS.of (cc := cX1_sortByStanding) (maxL := 4) (ret := none) (by decide) rfl (Nat.le_of_ble_eq_true rfl) ?_
  intro p_ e_ s_ m_ args_ below_ meth_ c_
  refine v_eq (pc' := 0) (st' := []) rfl rfl ?_
  refine v_loc [0, 1] [(0, .ref (G b)), (1, .ref (G (b + 7 + 2 * l)))] rfl ?_
  have e13 : ∀ g, rwF c (22 + 12 * l) M g (13 + l) = nI M := fun g => by rw [rwF_out (by omega)]; exact hln
  refine v_iconst (nI 1) dX1_sortByStanding_0 (by decide +kernel) ?_
  refine v_istore_n [(2, .int (nI 1)), (0, .ref (G b)), (1, .ref (G (b + 7 + 2 * l)))] dX1_sortByStanding_1 rfl (by decide) rfl ?_
  refine v_loc [0, 2, 1] [(2, .int (nI 1)), (1, .ref (G (b + 7 + 2 * l))), (0, .ref (G b))] rfl ?_
  refine u_loop2 (fun n (i : Nat) (g : Nat → Nat) => 1 ≤ i ∧ (i ≤ M ∨ i = 1) ∧ i + n = M + 1 ∧ g = isort key f (i - 1) ∧ KeyOK c key M g) (fun (i : Nat) (g : Nat → Nat) => hs σ b (rwF c (22 + 12 * l) M g)) (fun (i : Nat) (g : Nat → Nat) => [(2, .int (nI i)), (1, .ref (G (b + 7 + 2 * l))), (0, .ref (G b))]) (M) 1 f (⟨by omega, Or.inr rfl, by omega, rfl, hk⟩) ?_
  intro n i g hL ih
  refine v_iload_n 0 dX1_sortByStanding_2 rfl rfl ?_
  refine v_aload_n 1 dX1_sortByStanding_3 rfl rfl ?_
  refine l_geti (g := (rwF c (22 + 12 * l) M g)) (k := 3) (y := l) (by omega) ((rwF c (22 + 12 * l) M g) (13 + l)) hH rfl (lF3 _ _) inX1_sortByStanding_X3 (by decide) (by decide +kernel) rfl dX1_sortByStanding_4 ?_
  refine v_topi (nI M) (e13 _) ?_
  refine v_icmp_geN 55 (by omega) (by omega) dX1_sortByStanding_7 rfl (fun h7 => ?_) (fun h7 => ?_)
  · skip
    refine v_vret rfl dX1_sortByStanding_55 ⟨rfl, congrArg (φ shp) ?_⟩
    · congr 1; rw [hL.2.2.2.1, show i - 1 = M - 1 by omega]
  · skip
    refine v_iload_n 0 dX1_sortByStanding_10 rfl rfl ?_
    refine v_istore_n [(3, .int (nI i)), (2, .int (nI i)), (1, .ref (G (b + 7 + 2 * l))), (0, .ref (G b))] dX1_sortByStanding_11 rfl (by decide) rfl ?_
    refine v_loc [0, 1, 2, 3] [(3, .int (nI i)), (2, .int (nI i)), (1, .ref (G (b + 7 + 2 * l))), (0, .ref (G b))] rfl ?_
    refine u_loop2 (fun n2 (k : Nat) (h : Nat → Nat) => k + 0 = n2 ∧ k ≤ i ∧ ins key k h = ins key i g ∧ KeyOK c key M h) (fun (k : Nat) (h : Nat → Nat) => hs σ b (rwF c (22 + 12 * l) M h)) (fun (k : Nat) (h : Nat → Nat) => [(3, .int (nI k)), (2, .int (nI i)), (1, .ref (G (b + 7 + 2 * l))), (0, .ref (G b))]) (i) i g (⟨by omega, Nat.le_refl _, rfl, (hL.2.2.2.2)⟩) ?_
    intro n2 k h hL2 ih2
    refine v_iload_n 0 dX1_sortByStanding_12 rfl rfl ?_
    refine v_if_leN 49 (by omega) dX1_sortByStanding_13 rfl (fun h13 => ?_) (fun h13 => ?_)
    · skip
      obtain rfl : k = 0 := by omega
      have hL2 : h = ins key i g ∧ KeyOK c key M h := ⟨hL2.2.2.1, hL2.2.2.2⟩
      refine v_iincN 1 [(2, .int (nI (i + 1))), (3, .int (nI 0)), (1, .ref (G (b + 7 + 2 * l))), (0, .ref (G b))] dX1_sortByStanding_49 rfl (by decide) rfl ?_
      refine v_goto 2 dX1_sortByStanding_52 rfl ?_
      refine v_loc [0, 2, 3] [(2, .int (nI (i + 1))), (1, .ref (G (b + 7 + 2 * l))), (0, .ref (G b))] rfl ?_
      exact ih _ (i + 1) h (show n - 1 < n by omega) (⟨by omega, by omega, by omega, by obtain ⟨q, rfl⟩ : ∃ q, i = q + 1 := ⟨i - 1, by omega⟩; rw [hL2.1]; show ins key (q + 1) g = isort key f (q + 1 + 1 - 1); rw [hL.2.2.2.1]; rfl, hL2.2⟩)
    · skip
      obtain ⟨j, rfl⟩ : ∃ j, k = j + 1 := ⟨k - 1, by omega⟩
      have hp1 := (hL2.2.2.2 (j + 1) (by omega)).1
      have hp2 := (hL2.2.2.2 j (by omega)).1
      refine v_aload_n 3 dX1_sortByStanding_16 rfl rfl ?_
      refine v_aload_n 2 dX1_sortByStanding_17 rfl rfl ?_
      refine v_iload_n 0 dX1_sortByStanding_18 rfl rfl ?_
      refine u_callVv [.int (nI (j + 1))] [.ref (G b)] 1 ((c_X3_who lu Dg E N G shp σ hH (rwF c (22 + 12 * l) M h) (l := l) hl (e13 _) h12 (j + 1) (by omega)).to (v' := some (.int (nI (h (j + 1))))) (congrArg (fun z => some (Value.int z)) (by rw [ic_t (by omega), rwF_in (by omega)])) rfl) (ci := 3) (C := RX3) (T := TX3) (NF := 5) (hH.li (l := l) (by omega)).n (hH.li (l := l) (by omega)).2.1 rfl gX1_sortByStanding_X3_who rfl rfl rfl (by decide +kernel) rfl ⟨Nat.le_of_ble_eq_true rfl, Nat.le_of_ble_eq_true rfl⟩ ⟨Nat.le_of_ble_eq_true rfl, Nat.le_of_ble_eq_true rfl⟩ (Nat.le_of_ble_eq_true rfl) rfl dX1_sortByStanding_19 ?_
      refine v_aload_n 2 dX1_sortByStanding_22 rfl rfl ?_
      refine v_iload_n 0 dX1_sortByStanding_23 rfl rfl ?_
      refine v_iconst (nI 1) dX1_sortByStanding_24 (by decide +kernel) ?_
      refine v_isubN (by omega) dX1_sortByStanding_25 ?_
      refine v_topi (nI j) (congrArg nI (by omega)) ?_
      refine u_callVv [.int (nI j)] [.int (nI (h (j + 1))), .ref (G b)] 1 ((c_X3_who lu Dg E N G shp σ hH (rwF c (22 + 12 * l) M h) (l := l) hl (e13 _) h12 j (by omega)).to (v' := some (.int (nI (h j)))) (congrArg (fun z => some (Value.int z)) (by rw [ic_t (by omega), rwF_in (by omega)])) rfl) (ci := 3) (C := RX3) (T := TX3) (NF := 5) (hH.li (l := l) (by omega)).n (hH.li (l := l) (by omega)).2.1 rfl gX1_sortByStanding_X3_who rfl rfl rfl (by decide +kernel) rfl ⟨Nat.le_of_ble_eq_true rfl, Nat.le_of_ble_eq_true rfl⟩ ⟨Nat.le_of_ble_eq_true rfl, Nat.le_of_ble_eq_true rfl⟩ (Nat.le_of_ble_eq_true rfl) rfl dX1_sortByStanding_26 ?_
      refine u_callVv [.int (nI (h (j + 1))), .int (nI (h j))] [] 2 (c_X1_standsBefore lu Dg E N G shp σ hH (rwF c (22 + 12 * l) M h) (p := h (j + 1)) (q := h j) hp1 hp2) (ci := 1) (C := RX1) (T := TX1) (NF := 11) hH.n hH.s rfl gX1_sortByStanding_X1_standsBefore rfl rfl rfl (by decide +kernel) rfl ⟨Nat.le_of_ble_eq_true rfl, Nat.le_of_ble_eq_true rfl⟩ ⟨Nat.le_of_ble_eq_true rfl, Nat.le_of_ble_eq_true rfl⟩ (Nat.le_of_ble_eq_true rfl) rfl dX1_sortByStanding_29 ?_
      refine v_if_eqB 49 dX1_sortByStanding_32 rfl (fun h32 => ?_) (fun h32 => ?_)
      · skip
        have hL2 : h = ins key i g ∧ KeyOK c key M h := ⟨by rw [← hL2.2.2.1, ins_s, if_neg (fun z => h32 ((ahead_rw hL2.2.2.2 (by omega) (by omega) (by omega)).mpr (kd_t.mp z)))], hL2.2.2.2⟩
        refine v_iincN 1 [(2, .int (nI (i + 1))), (3, .int (nI (j + 1))), (1, .ref (G (b + 7 + 2 * l))), (0, .ref (G b))] dX1_sortByStanding_49 rfl (by decide) rfl ?_
        refine v_goto 2 dX1_sortByStanding_52 rfl ?_
        refine v_loc [0, 2, 3] [(2, .int (nI (i + 1))), (1, .ref (G (b + 7 + 2 * l))), (0, .ref (G b))] rfl ?_
        exact ih _ (i + 1) h (show n - 1 < n by omega) (⟨by omega, by omega, by omega, by obtain ⟨q, rfl⟩ : ∃ q, i = q + 1 := ⟨i - 1, by omega⟩; rw [hL2.1]; show ins key (q + 1) g = isort key f (q + 1 + 1 - 1); rw [hL.2.2.2.1]; rfl, hL2.2⟩)
      · skip
        refine v_aload_n 2 dX1_sortByStanding_35 rfl rfl ?_
        refine v_iload_n 0 dX1_sortByStanding_36 rfl rfl ?_
        refine v_iconst (nI 1) dX1_sortByStanding_37 (by decide +kernel) ?_
        refine v_isubN (by omega) dX1_sortByStanding_38 ?_
        refine v_topi (nI j) (congrArg nI (by omega)) ?_
        refine v_iload_n 0 dX1_sortByStanding_39 rfl rfl ?_
        refine u_callVn [.int (nI j), .int (nI (j + 1))] [] 2 (c_X3_swap lu Dg E N G shp σ hH (rwF c (22 + 12 * l) M h) (l := l) hl (e13 _) h12 (x := j) (y := j + 1) (by omega) (by omega)) (ci := 3) (C := RX3) (T := TX3) (NF := 5) (hH.li (l := l) (by omega)).n (hH.li (l := l) (by omega)).2.1 rfl gX1_sortByStanding_X3_swap rfl rfl rfl (by decide +kernel) rfl ⟨Nat.le_of_ble_eq_true rfl, Nat.le_of_ble_eq_true rfl⟩ ⟨Nat.le_of_ble_eq_true rfl, Nat.le_of_ble_eq_true rfl⟩ (Nat.le_of_ble_eq_true rfl) rfl dX1_sortByStanding_40 ?_
        refine v_σ (hs σ b (rwF c (22 + 12 * l) M (sw h j))) (congrArg (fun z9 => hs σ b z9) (by rw [rwF_in (k := j + 1) (by omega), rwF_in (k := j) (by omega)]; exact rwF_sw (by omega))) ?_
        refine v_iinc 0 (nI j) [(3, .int (nI j)), (2, .int (nI i)), (1, .ref (G (b + 7 + 2 * l))), (0, .ref (G b))] dX1_sortByStanding_43 rfl (by exact iincm (by omega)) (by decide) rfl ?_
        refine v_goto 12 dX1_sortByStanding_46 rfl ?_
        refine v_loc [0, 1, 2, 3] [(3, .int (nI j)), (2, .int (nI i)), (1, .ref (G (b + 7 + 2 * l))), (0, .ref (G b))] rfl ?_
        exact ih2 _ j (sw h j) (show n2 - 1 < n2 by omega) (⟨by omega, by omega, by rw [← hL2.2.2.1, ins_s, if_pos (kd_t.mpr ((ahead_rw hL2.2.2.2 (by omega) (by omega) (by omega)).mp h32))], hL2.2.2.2.sw (by omega)⟩)
