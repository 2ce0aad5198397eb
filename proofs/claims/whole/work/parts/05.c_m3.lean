set_option maxHeartbeats 4000000 in
set_option maxRecDepth 100000 in
/-- goFault -/
theorem c_X6_goFault (lu : Launch) (Dg : va_G) (E : Nat → ClassId) (N : Nat) (G : Nat → Nat) (shp : Nat → (Nat → Int32) → va_E) (σ : Nat → Nat → Int32) {b : Nat} (hM : ModS E G shp N b) (f0 f1 f2 f3 f4 f5 f6 : Nat → Int32) {T : Nat} (hI : Inv T f1) (x : Int32)  : CS lu yX6_goFault wsX6_goFault { frames := 2, cells := 0, slots := 0, locals := 43 } Dg E N G shp (mk7 σ b f0 f1 f2 f3 f4 f5 f6) [.ref (G b), .int x] (some (.int (nI (goFl f1 x)))) (mk7 σ b f0 f1 f2 f3 f4 f5 f6) := by
  refine CS.of (cc := cX6_goFault) (maxL := 2) (ret := (some .int)) (by decide) rfl (Nat.le_of_ble_eq_true rfl) ?_
  intro p_ e_ s_ m_ args_ below_ meth_ c_
  refine v_eq (pc' := 0) (st' := []) rfl rfl ?_
  refine v_loc [0, 1] [(0, .ref (G b)), (1, .int x)] rfl ?_
  refine v_aload_n 0 dX6_goFault_0 rfl rfl ?_
  refine v_iload_n 1 dX6_goFault_1 rfl rfl ?_
  refine u_callVv [.int x] [] 1 (c_X6_isPerson lu Dg E N G shp σ hM f0 f1 f2 f3 f4 f5 f6 hI.np (by have := hI.np30; omega) (x)) (ci := 6) (C := RX6) (T := TX6) (NF := 13) hM.n hM.s rfl gX6_goFault_X6_isPerson rfl rfl rfl (by decide +kernel) rfl ⟨Nat.le_of_ble_eq_true rfl, Nat.le_of_ble_eq_true rfl⟩ ⟨Nat.le_of_ble_eq_true rfl, Nat.le_of_ble_eq_true rfl⟩ (Nat.le_of_ble_eq_true rfl) rfl dX6_goFault_2 ?_
  refine v_if_neB 12 dX6_goFault_5 rfl (fun h5 => ?_) (fun h5 => ?_)
  · skip
    obtain ⟨j, hj, rfl⟩ := h5
    have hj3 := Nat.lt_of_lt_of_le hj hI.np30
    refine v_aload_n 0 dX6_goFault_12 rfl rfl ?_
    refine v_iload_n 1 dX6_goFault_13 rfl rfl ?_
    refine u_callVv [.int (nI j)] [] 1 (c_X6_isStanding lu Dg E N G shp σ hM f0 f1 f2 f3 f4 f5 f6 j (by omega)) (ci := 6) (C := RX6) (T := TX6) (NF := 13) hM.n hM.s rfl gX6_goFault_X6_isStanding rfl rfl rfl (by decide +kernel) rfl ⟨Nat.le_of_ble_eq_true rfl, Nat.le_of_ble_eq_true rfl⟩ ⟨Nat.le_of_ble_eq_true rfl, Nat.le_of_ble_eq_true rfl⟩ (Nat.le_of_ble_eq_true rfl) rfl dX6_goFault_14 ?_
    refine v_if_neB 24 dX6_goFault_17 rfl (fun h17 => ?_) (fun h17 => ?_)
    · skip
      refine v_iconst (nI 0) dX6_goFault_24 (by decide +kernel) ?_
      refine v_iret rfl dX6_goFault_25 ⟨congrArg (fun z => some (Value.int z)) ?_, congrArg (φ shp) ?_⟩
      · exact congrArg nI (by rw [goFl, ic_f (not_not_intro ⟨j, hj, rfl⟩), tn_nI (by omega), ic_t h17])
      · rfl
    · skip
      refine v_iconst (nI 2) dX6_goFault_20 (by decide +kernel) ?_
      refine v_goto 25 dX6_goFault_21 rfl ?_
      refine v_iret rfl dX6_goFault_25 ⟨congrArg (fun z => some (Value.int z)) ?_, congrArg (φ shp) ?_⟩
      · exact congrArg nI (by rw [goFl, ic_f (not_not_intro ⟨j, hj, rfl⟩), tn_nI (by omega), ic_f h17])
      · rfl
  · skip
    refine v_iconst (nI 1) dX6_goFault_8 (by decide +kernel) ?_
    refine v_goto 25 dX6_goFault_9 rfl ?_
    refine v_iret rfl dX6_goFault_25 ⟨congrArg (fun z => some (Value.int z)) ?_, congrArg (φ shp) ?_⟩
    · exact congrArg nI (by rw [goFl, ic_t h5])
    · rfl

set_option maxRecDepth 100000 in
theorem inX6_goes_X6 : ∀ w ∈ wsX60, w ∈ wsX6_goes := by decide +kernel
set_option maxHeartbeats 4000000 in
set_option maxRecDepth 100000 in
/-- goes -/
theorem c_X6_goes (lu : Launch) (Dg : va_G) (E : Nat → ClassId) (N : Nat) (G : Nat → Nat) (shp : Nat → (Nat → Int32) → va_E) (σ : Nat → Nat → Int32) {b : Nat} (hM : ModS E G shp N b) (f0 f1 f2 f3 f4 f5 f6 : Nat → Int32) {T : Nat} (hI : Inv T f1) {p : Nat} (hp : p < tn (f1 2)) (hs : f1 (58 + 10 * p + 5) = 0)  : CS lu yX6_goes wsX6_goes { frames := 2, cells := 0, slots := 0, locals := 46 } Dg E N G shp (mk7 σ b f0 f1 f2 f3 f4 f5 f6) [.ref (G b), .int (nI p)] (some (.int (f1 (58 + 10 * p + 2)))) (mk7 σ b f0 (leavesF f1 (liN f1 p) (plc f1 p) (tn (f1 (13 + liN f1 p))) p (nI 2)) f2 f3 f4 f5 f6) := by
  refine CS.of (cc := cX6_goes) (maxL := 2) (ret := (some .int)) (by decide) rfl (Nat.le_of_ble_eq_true rfl) ?_
  intro p_ e_ s_ m_ args_ below_ meth_ c_
  refine v_eq (pc' := 0) (st' := []) rfl rfl ?_
  refine v_loc [0, 1] [(0, .ref (G b)), (1, .int (nI p))] rfl ?_
  have hq := hI.plcs hp hs
  have hp30 := Nat.lt_of_lt_of_le hp hI.np30
  have hl3 := Nat.lt_of_lt_of_le hq.1 hI.nl3
  refine v_aload_n 0 dX6_goes_0 rfl rfl ?_
  refine v_aload_n 0 dX6_goes_1 rfl rfl ?_
  refine u_getr (k := 1) (C := RX6) (T := TX6) (NF := 13) hM.n hM.s rfl rfl inX6_goes_X6 (by decide) (by decide +kernel) rfl dX6_goes_2 ?_
  refine v_iload_n 1 dX6_goes_5 rfl rfl ?_
  refine v_iconst (nI 1) dX6_goes_6 (by decide +kernel) ?_
  refine u_callSv [.int (nI p), .int (nI 1)] [.ref (G (b + 1)), .ref (G b)] 2 (c_X6_of lu Dg E N G shp (mk7 σ b f0 f1 f2 f3 f4 f5 f6) p 1) gX6_goes_X6_of rfl rfl rfl (by decide +kernel) rfl ⟨Nat.le_of_ble_eq_true rfl, Nat.le_of_ble_eq_true rfl⟩ ⟨Nat.le_of_ble_eq_true rfl, Nat.le_of_ble_eq_true rfl⟩ (Nat.le_of_ble_eq_true rfl) rfl dX6_goes_7 ?_
  refine m_ld1 (58 + 10 * p + 1) hM (rfl) (by omega) dX6_goes_10 ?_
  refine v_topi (nI (liN f1 p)) (hq.2.1) ?_
  refine v_aload_n 0 dX6_goes_11 rfl rfl ?_
  refine v_iload_n 1 dX6_goes_12 rfl rfl ?_
  refine u_callVv [.int (nI p)] [.int (nI (liN f1 p)), .ref (G b)] 1 ((c_X6_placeOf lu Dg E N G shp σ hM f0 f1 f2 f3 f4 f5 f6 (p := p) (by omega) (l := liN f1 p) (by have := hI.nl3; omega) hq.2.1 (hI.len hq.1) (hI.len12 hq.1)).to (v' := some (.int (nI (plc f1 p)))) (congrArg (fun z => some (Value.int z)) hq.2.2.2.2) rfl) (ci := 6) (C := RX6) (T := TX6) (NF := 13) hM.n hM.s rfl gX6_goes_X6_placeOf rfl rfl rfl (by decide +kernel) rfl ⟨Nat.le_of_ble_eq_true rfl, Nat.le_of_ble_eq_true rfl⟩ ⟨Nat.le_of_ble_eq_true rfl, Nat.le_of_ble_eq_true rfl⟩ (Nat.le_of_ble_eq_true rfl) rfl dX6_goes_13 ?_
  refine v_iconst (nI 2) dX6_goes_16 (by decide +kernel) ?_
  refine u_callVn [.int (nI (liN f1 p)), .int (nI (plc f1 p)), .int (nI 2)] [] 3 (c_X6_leaves lu Dg E N G shp σ hM f0 f1 f2 f3 f4 f5 f6 (l := liN f1 p) (k := plc f1 p) (len := tn (f1 (13 + liN f1 p))) (p := p) (by have := hI.nl3; omega) hq.2.2.1 (hI.len12 hq.1) (hI.len hq.1) hq.2.2.2.1 (by omega) (nI 2)) (ci := 6) (C := RX6) (T := TX6) (NF := 13) hM.n hM.s rfl gX6_goes_X6_leaves rfl rfl rfl (by decide +kernel) rfl ⟨Nat.le_of_ble_eq_true rfl, Nat.le_of_ble_eq_true rfl⟩ ⟨Nat.le_of_ble_eq_true rfl, Nat.le_of_ble_eq_true rfl⟩ (Nat.le_of_ble_eq_true rfl) rfl dX6_goes_17 ?_
  refine v_aload_n 0 dX6_goes_20 rfl rfl ?_
  refine u_getr (k := 1) (C := RX6) (T := TX6) (NF := 13) hM.n hM.s rfl rfl inX6_goes_X6 (by decide) (by decide +kernel) rfl dX6_goes_21 ?_
  refine v_iload_n 1 dX6_goes_24 rfl rfl ?_
  refine v_iconst (nI 2) dX6_goes_25 (by decide +kernel) ?_
  refine u_callSv [.int (nI p), .int (nI 2)] [.ref (G (b + 1))] 2 (c_X6_of lu Dg E N G shp (mk7 σ b f0 (leavesF f1 (liN f1 p) (plc f1 p) (tn (f1 (13 + liN f1 p))) p (nI 2)) f2 f3 f4 f5 f6) p 2) gX6_goes_X6_of rfl rfl rfl (by decide +kernel) rfl ⟨Nat.le_of_ble_eq_true rfl, Nat.le_of_ble_eq_true rfl⟩ ⟨Nat.le_of_ble_eq_true rfl, Nat.le_of_ble_eq_true rfl⟩ (Nat.le_of_ble_eq_true rfl) rfl dX6_goes_26 ?_
  refine m_ld1 (58 + 10 * p + 2) hM (rfl) (by omega) dX6_goes_29 ?_
  refine v_topi (f1 (58 + 10 * p + 2)) (leavesF_out (by omega) (by omega) (by omega) (Or.inr (by have := hI.len12 hq.1; omega))) ?_
  refine v_iret rfl dX6_goes_30 ⟨congrArg (fun z => some (Value.int z)) ?_, congrArg (φ shp) ?_⟩
  · rfl
  · rfl

theorem npos {a c : Nat} (ha : a ≤ 12) (hc : c ≤ 12) (h : a ≤ c) : ¬ 0 < nI a - nI c := by
  intro h2
  have e1 := pk_sub_toInt (a := a) (b := c) (by omega) (by omega)
  have e2 := Int32.lt_iff_toInt_lt.mp h2
  rw [e1, Int32.toInt_zero] at e2
  omega
set_option maxRecDepth 100000 in
theorem inX6_exchangeFault_X6 : ∀ w ∈ wsX60, w ∈ wsX6_exchangeFault := by decide +kernel
set_option maxHeartbeats 4000000 in
set_option maxRecDepth 100000 in
/-- exchangeFault -/
theorem c_X6_exchangeFault (lu : Launch) (Dg : va_G) (E : Nat → ClassId) (N : Nat) (G : Nat → Nat) (shp : Nat → (Nat → Int32) → va_E) (σ : Nat → Nat → Int32) {b : Nat} (hM : ModS E G shp N b) (f0 f1 f2 f3 f4 f5 f6 : Nat → Int32) {T : Nat} (hI : Inv T f1) (x y : Int32)  : CS lu yX6_exchangeFault wsX6_exchangeFault { frames := 2, cells := 0, slots := 0, locals := 45 } Dg E N G shp (mk7 σ b f0 f1 f2 f3 f4 f5 f6) [.ref (G b), .int x, .int y] (some (.int (nI (exchFl f1 x y)))) (mk7 σ b f0 f1 f2 f3 f4 f5 f6) := by
  refine CS.of (cc := cX6_exchangeFault) (maxL := 4) (ret := (some .int)) (by decide) rfl (Nat.le_of_ble_eq_true rfl) ?_
  intro p_ e_ s_ m_ args_ below_ meth_ c_
  refine v_eq (pc' := 0) (st' := []) rfl rfl ?_
  refine v_loc [0, 1, 2] [(0, .ref (G b)), (1, .int x), (2, .int y)] rfl ?_
  refine v_aload_n 0 dX6_exchangeFault_0 rfl rfl ?_
  refine v_iload_n 1 dX6_exchangeFault_1 rfl rfl ?_
  refine u_callVv [.int x] [] 1 (c_X6_isPerson lu Dg E N G shp σ hM f0 f1 f2 f3 f4 f5 f6 hI.np (by have := hI.np30; omega) (x)) (ci := 6) (C := RX6) (T := TX6) (NF := 13) hM.n hM.s rfl gX6_exchangeFault_X6_isPerson rfl rfl rfl (by decide +kernel) rfl ⟨Nat.le_of_ble_eq_true rfl, Nat.le_of_ble_eq_true rfl⟩ ⟨Nat.le_of_ble_eq_true rfl, Nat.le_of_ble_eq_true rfl⟩ (Nat.le_of_ble_eq_true rfl) rfl dX6_exchangeFault_2 ?_
  refine v_if_eqB 16 dX6_exchangeFault_5 rfl (fun h5 => ?_) (fun h5 => ?_)
  · skip
    refine v_iconst (nI 1) dX6_exchangeFault_16 (by decide +kernel) ?_
    refine v_iret rfl dX6_exchangeFault_17 ⟨congrArg (fun z => some (Value.int z)) ?_, congrArg (φ shp) ?_⟩
    · exact congrArg nI (by rw [exchFl, ic_t (by first | exact Or.inl h5 | exact Or.inr h13)])
    · rfl
  · skip
    obtain ⟨p, hp, rfl⟩ := h5
    have hp30 := Nat.lt_of_lt_of_le hp hI.np30
    refine v_aload_n 0 dX6_exchangeFault_8 rfl rfl ?_
    refine v_iload_n 2 dX6_exchangeFault_9 rfl rfl ?_
    refine u_callVv [.int y] [] 1 (c_X6_isPerson lu Dg E N G shp σ hM f0 f1 f2 f3 f4 f5 f6 hI.np (by have := hI.np30; omega) (y)) (ci := 6) (C := RX6) (T := TX6) (NF := 13) hM.n hM.s rfl gX6_exchangeFault_X6_isPerson rfl rfl rfl (by decide +kernel) rfl ⟨Nat.le_of_ble_eq_true rfl, Nat.le_of_ble_eq_true rfl⟩ ⟨Nat.le_of_ble_eq_true rfl, Nat.le_of_ble_eq_true rfl⟩ (Nat.le_of_ble_eq_true rfl) rfl dX6_exchangeFault_10 ?_
    refine v_if_neB 18 dX6_exchangeFault_13 rfl (fun h13 => ?_) (fun h13 => ?_)
    · skip
      obtain ⟨q, hq, rfl⟩ := h13
      have hq30 := Nat.lt_of_lt_of_le hq hI.np30
      refine v_aload_n 0 dX6_exchangeFault_18 rfl rfl ?_
      refine v_iload_n 1 dX6_exchangeFault_19 rfl rfl ?_
      refine u_callVv [.int (nI p)] [] 1 (c_X6_isStanding lu Dg E N G shp σ hM f0 f1 f2 f3 f4 f5 f6 p (by omega)) (ci := 6) (C := RX6) (T := TX6) (NF := 13) hM.n hM.s rfl gX6_exchangeFault_X6_isStanding rfl rfl rfl (by decide +kernel) rfl ⟨Nat.le_of_ble_eq_true rfl, Nat.le_of_ble_eq_true rfl⟩ ⟨Nat.le_of_ble_eq_true rfl, Nat.le_of_ble_eq_true rfl⟩ (Nat.le_of_ble_eq_true rfl) rfl dX6_exchangeFault_20 ?_
      refine v_if_eqB 57 dX6_exchangeFault_23 rfl (fun h23 => ?_) (fun h23 => ?_)
      · skip
        refine v_iconst (nI 2) dX6_exchangeFault_57 (by decide +kernel) ?_
        refine v_iret rfl dX6_exchangeFault_58 ⟨congrArg (fun z => some (Value.int z)) ?_, congrArg (φ shp) ?_⟩
        · exact congrArg nI (by rw [exchFl, ic_f (by rintro (q9 | q9); exact q9 ⟨p, hp, rfl⟩; exact q9 ⟨q, hq, rfl⟩), tn_nI (by omega), tn_nI (by omega), ic_f (fun q9 => by first | exact h23 q9.1 | exact h31 q9.2.1 | exact h54 q9.2.2.1 | exact hlt q9.2.2.2.1 | exact h106 q9.2.2.2.2)])
        · rfl
      · skip
        refine v_aload_n 0 dX6_exchangeFault_26 rfl rfl ?_
        refine v_iload_n 2 dX6_exchangeFault_27 rfl rfl ?_
        refine u_callVv [.int (nI q)] [] 1 (c_X6_isStanding lu Dg E N G shp σ hM f0 f1 f2 f3 f4 f5 f6 q (by omega)) (ci := 6) (C := RX6) (T := TX6) (NF := 13) hM.n hM.s rfl gX6_exchangeFault_X6_isStanding rfl rfl rfl (by decide +kernel) rfl ⟨Nat.le_of_ble_eq_true rfl, Nat.le_of_ble_eq_true rfl⟩ ⟨Nat.le_of_ble_eq_true rfl, Nat.le_of_ble_eq_true rfl⟩ (Nat.le_of_ble_eq_true rfl) rfl dX6_exchangeFault_28 ?_
        refine v_if_eqB 57 dX6_exchangeFault_31 rfl (fun h31 => ?_) (fun h31 => ?_)
        · skip
          refine v_iconst (nI 2) dX6_exchangeFault_57 (by decide +kernel) ?_
          refine v_iret rfl dX6_exchangeFault_58 ⟨congrArg (fun z => some (Value.int z)) ?_, congrArg (φ shp) ?_⟩
          · exact congrArg nI (by rw [exchFl, ic_f (by rintro (q9 | q9); exact q9 ⟨p, hp, rfl⟩; exact q9 ⟨q, hq, rfl⟩), tn_nI (by omega), tn_nI (by omega), ic_f (fun q9 => by first | exact h23 q9.1 | exact h31 q9.2.1 | exact h54 q9.2.2.1 | exact hlt q9.2.2.2.1 | exact h106 q9.2.2.2.2)])
          · rfl
        · skip
          refine v_aload_n 0 dX6_exchangeFault_34 rfl rfl ?_
          refine u_getr (k := 1) (C := RX6) (T := TX6) (NF := 13) hM.n hM.s rfl rfl inX6_exchangeFault_X6 (by decide) (by decide +kernel) rfl dX6_exchangeFault_35 ?_
          refine v_iload_n 1 dX6_exchangeFault_38 rfl rfl ?_
          refine v_iconst (nI 1) dX6_exchangeFault_39 (by decide +kernel) ?_
          refine u_callSv [.int (nI p), .int (nI 1)] [.ref (G (b + 1))] 2 (c_X6_of lu Dg E N G shp (mk7 σ b f0 f1 f2 f3 f4 f5 f6) p 1) gX6_exchangeFault_X6_of rfl rfl rfl (by decide +kernel) rfl ⟨Nat.le_of_ble_eq_true rfl, Nat.le_of_ble_eq_true rfl⟩ ⟨Nat.le_of_ble_eq_true rfl, Nat.le_of_ble_eq_true rfl⟩ (Nat.le_of_ble_eq_true rfl) rfl dX6_exchangeFault_40 ?_
          refine m_ld1 (58 + 10 * p + 1) hM (rfl) (by omega) dX6_exchangeFault_43 ?_
          refine v_aload_n 0 dX6_exchangeFault_44 rfl rfl ?_
          refine u_getr (k := 1) (C := RX6) (T := TX6) (NF := 13) hM.n hM.s rfl rfl inX6_exchangeFault_X6 (by decide) (by decide +kernel) rfl dX6_exchangeFault_45 ?_
          refine v_iload_n 2 dX6_exchangeFault_48 rfl rfl ?_
          refine v_iconst (nI 1) dX6_exchangeFault_49 (by decide +kernel) ?_
          refine u_callSv [.int (nI q), .int (nI 1)] [.ref (G (b + 1)), .int (f1 (58 + 10 * p + 1))] 2 (c_X6_of lu Dg E N G shp (mk7 σ b f0 f1 f2 f3 f4 f5 f6) q 1) gX6_exchangeFault_X6_of rfl rfl rfl (by decide +kernel) rfl ⟨Nat.le_of_ble_eq_true rfl, Nat.le_of_ble_eq_true rfl⟩ ⟨Nat.le_of_ble_eq_true rfl, Nat.le_of_ble_eq_true rfl⟩ (Nat.le_of_ble_eq_true rfl) rfl dX6_exchangeFault_50 ?_
          refine m_ld1 (58 + 10 * q + 1) hM (rfl) (by omega) dX6_exchangeFault_53 ?_
          refine v_icmp_eq 59 dX6_exchangeFault_54 rfl (fun h54 => ?_) (fun h54 => ?_)
          · skip
            have hqp := hI.plcs hp h23
            have hqq := hI.plcs hq h31
            have hk12 := hI.len12 hqp.1
            have hkp := hqp.2.2.1
            refine v_aload_n 0 dX6_exchangeFault_59 rfl rfl ?_
            refine v_iload_n 1 dX6_exchangeFault_60 rfl rfl ?_
            refine u_callVv [.int (nI p)] [] 1 ((c_X6_placeOf lu Dg E N G shp σ hM f0 f1 f2 f3 f4 f5 f6 (p := p) (by omega) (l := liN f1 p) (by have := hI.nl3; omega) hqp.2.1 (hI.len hqp.1) (hI.len12 hqp.1)).to (v' := some (.int (nI (plc f1 p)))) (congrArg (fun z => some (Value.int z)) hqp.2.2.2.2) rfl) (ci := 6) (C := RX6) (T := TX6) (NF := 13) hM.n hM.s rfl gX6_exchangeFault_X6_placeOf rfl rfl rfl (by decide +kernel) rfl ⟨Nat.le_of_ble_eq_true rfl, Nat.le_of_ble_eq_true rfl⟩ ⟨Nat.le_of_ble_eq_true rfl, Nat.le_of_ble_eq_true rfl⟩ (Nat.le_of_ble_eq_true rfl) rfl dX6_exchangeFault_61 ?_
            refine v_aload_n 0 dX6_exchangeFault_64 rfl rfl ?_
            refine v_iload_n 2 dX6_exchangeFault_65 rfl rfl ?_
            refine u_callVv [.int (nI q)] [.int (nI (plc f1 p))] 1 ((c_X6_placeOf lu Dg E N G shp σ hM f0 f1 f2 f3 f4 f5 f6 (p := q) (by omega) (l := liN f1 q) (by have := hI.nl3; omega) hqq.2.1 (hI.len hqq.1) (hI.len12 hqq.1)).to (v' := some (.int (nI (plc f1 q)))) (congrArg (fun z => some (Value.int z)) hqq.2.2.2.2) rfl) (ci := 6) (C := RX6) (T := TX6) (NF := 13) hM.n hM.s rfl gX6_exchangeFault_X6_placeOf rfl rfl rfl (by decide +kernel) rfl ⟨Nat.le_of_ble_eq_true rfl, Nat.le_of_ble_eq_true rfl⟩ ⟨Nat.le_of_ble_eq_true rfl, Nat.le_of_ble_eq_true rfl⟩ (Nat.le_of_ble_eq_true rfl) rfl dX6_exchangeFault_66 ?_
            refine v_isub dX6_exchangeFault_69 ?_
            by_cases hlt : plc f1 q < plc f1 p
            · skip
              refine v_topi (nI (plc f1 p - plc f1 q)) (pk_sub (by omega)) ?_
              refine v_istore_n [(3, .int (nI (plc f1 p - plc f1 q))), (0, .ref (G b)), (1, .int (nI p)), (2, .int (nI q))] dX6_exchangeFault_70 rfl (by decide) rfl ?_
              refine v_iload_n 0 dX6_exchangeFault_71 rfl rfl ?_
              refine v_if_leN 109 (by omega) dX6_exchangeFault_72 rfl (fun h72 => ?_) (fun h72 => ?_)
              · skip
                omega
              · skip
                refine v_aload_n 1 dX6_exchangeFault_75 rfl rfl ?_
                refine u_getr (k := 1) (C := RX6) (T := TX6) (NF := 13) hM.n hM.s rfl rfl inX6_exchangeFault_X6 (by decide) (by decide +kernel) rfl dX6_exchangeFault_76 ?_
                refine v_iload_n 2 dX6_exchangeFault_79 rfl rfl ?_
                refine v_iconst (nI 3) dX6_exchangeFault_80 (by decide +kernel) ?_
                refine u_callSv [.int (nI p), .int (nI 3)] [.ref (G (b + 1))] 2 (c_X6_of lu Dg E N G shp (mk7 σ b f0 f1 f2 f3 f4 f5 f6) p 3) gX6_exchangeFault_X6_of rfl rfl rfl (by decide +kernel) rfl ⟨Nat.le_of_ble_eq_true rfl, Nat.le_of_ble_eq_true rfl⟩ ⟨Nat.le_of_ble_eq_true rfl, Nat.le_of_ble_eq_true rfl⟩ (Nat.le_of_ble_eq_true rfl) rfl dX6_exchangeFault_81 ?_
                refine m_ld1 (58 + 10 * p + 3) hM (rfl) (by omega) dX6_exchangeFault_84 ?_
                refine v_iload_n 0 dX6_exchangeFault_85 rfl rfl ?_
                refine v_aload_n 1 dX6_exchangeFault_86 rfl rfl ?_
                refine u_getr (k := 1) (C := RX6) (T := TX6) (NF := 13) hM.n hM.s rfl rfl inX6_exchangeFault_X6 (by decide) (by decide +kernel) rfl dX6_exchangeFault_87 ?_
                refine v_bipush (nI 8) dX6_exchangeFault_90 (by decide +kernel) ?_
                refine m_ld1 8 hM (rfl) (by omega) dX6_exchangeFault_92 ?_
                refine v_imul dX6_exchangeFault_93 ?_
                refine v_topi (nI (plc f1 p - plc f1 q) * f1 8) (rfl) ?_
                refine v_isub dX6_exchangeFault_94 ?_
                refine v_aload_n 1 dX6_exchangeFault_95 rfl rfl ?_
                refine u_getr (k := 1) (C := RX6) (T := TX6) (NF := 13) hM.n hM.s rfl rfl inX6_exchangeFault_X6 (by decide) (by decide +kernel) rfl dX6_exchangeFault_96 ?_
                refine v_iload_n 2 dX6_exchangeFault_99 rfl rfl ?_
                refine v_iconst (nI 2) dX6_exchangeFault_100 (by decide +kernel) ?_
                refine u_callSv [.int (nI p), .int (nI 2)] [.ref (G (b + 1)), .int ((f1 (58 + 10 * p + 3)) - (nI (plc f1 p - plc f1 q) * f1 8))] 2 (c_X6_of lu Dg E N G shp (mk7 σ b f0 f1 f2 f3 f4 f5 f6) p 2) gX6_exchangeFault_X6_of rfl rfl rfl (by decide +kernel) rfl ⟨Nat.le_of_ble_eq_true rfl, Nat.le_of_ble_eq_true rfl⟩ ⟨Nat.le_of_ble_eq_true rfl, Nat.le_of_ble_eq_true rfl⟩ (Nat.le_of_ble_eq_true rfl) rfl dX6_exchangeFault_101 ?_
                refine m_ld1 (58 + 10 * p + 2) hM (rfl) (by omega) dX6_exchangeFault_104 ?_
                refine v_iadd dX6_exchangeFault_105 ?_
                refine v_if_ge 113 dX6_exchangeFault_106 rfl (fun h106 => ?_) (fun h106 => ?_)
                · skip
                  refine v_iconst (nI 0) dX6_exchangeFault_113 (by decide +kernel) ?_
                  refine v_iret rfl dX6_exchangeFault_114 ⟨congrArg (fun z => some (Value.int z)) ?_, congrArg (φ shp) ?_⟩
                  · exact congrArg nI (by rw [exchFl, ic_f (by rintro (q9 | q9); exact q9 ⟨p, hp, rfl⟩; exact q9 ⟨q, hq, rfl⟩), tn_nI (by omega), tn_nI (by omega), ic_t ⟨h23, h31, h54, hlt, h106⟩])
                  · rfl
                · skip
                  refine v_iconst (nI 2) dX6_exchangeFault_109 (by decide +kernel) ?_
                  refine v_goto 114 dX6_exchangeFault_110 rfl ?_
                  refine v_iret rfl dX6_exchangeFault_114 ⟨congrArg (fun z => some (Value.int z)) ?_, congrArg (φ shp) ?_⟩
                  · exact congrArg nI (by rw [exchFl, ic_f (by rintro (q9 | q9); exact q9 ⟨p, hp, rfl⟩; exact q9 ⟨q, hq, rfl⟩), tn_nI (by omega), tn_nI (by omega), ic_f (fun q9 => by first | exact h23 q9.1 | exact h31 q9.2.1 | exact h54 q9.2.2.1 | exact hlt q9.2.2.2.1 | exact h106 q9.2.2.2.2)])
                  · rfl
            · skip
              have hsg : ¬ 0 < nI (plc f1 p) - nI (plc f1 q) := npos (Nat.le_of_lt (Nat.lt_of_lt_of_le hqp.2.2.1 (hI.len12 hqp.1))) (Nat.le_of_lt (Nat.lt_of_lt_of_le hqq.2.2.1 (hI.len12 hqq.1))) (Nat.le_of_not_lt hlt)
              refine v_istore_n [(3, .int ((nI (plc f1 p)) - (nI (plc f1 q)))), (0, .ref (G b)), (1, .int (nI p)), (2, .int (nI q))] dX6_exchangeFault_70 rfl (by decide) rfl ?_
              refine v_iload_n 0 dX6_exchangeFault_71 rfl rfl ?_
              refine v_if_le 109 dX6_exchangeFault_72 rfl (fun h72 => ?_) (fun h72 => ?_)
              · skip
                refine v_iconst (nI 2) dX6_exchangeFault_109 (by decide +kernel) ?_
                refine v_goto 114 dX6_exchangeFault_110 rfl ?_
                refine v_iret rfl dX6_exchangeFault_114 ⟨congrArg (fun z => some (Value.int z)) ?_, congrArg (φ shp) ?_⟩
                · exact congrArg nI (by rw [exchFl, ic_f (by rintro (q9 | q9); exact q9 ⟨p, hp, rfl⟩; exact q9 ⟨q, hq, rfl⟩), tn_nI (by omega), tn_nI (by omega), ic_f (fun q9 => by first | exact h23 q9.1 | exact h31 q9.2.1 | exact h54 q9.2.2.1 | exact hlt q9.2.2.2.1 | exact h106 q9.2.2.2.2)])
                · rfl
              · skip
                exact absurd (Int32.not_le.mp h72) hsg
          · skip
            refine v_iconst (nI 2) dX6_exchangeFault_57 (by decide +kernel) ?_
            refine v_iret rfl dX6_exchangeFault_58 ⟨congrArg (fun z => some (Value.int z)) ?_, congrArg (φ shp) ?_⟩
            · exact congrArg nI (by rw [exchFl, ic_f (by rintro (q9 | q9); exact q9 ⟨p, hp, rfl⟩; exact q9 ⟨q, hq, rfl⟩), tn_nI (by omega), tn_nI (by omega), ic_f (fun q9 => by first | exact h23 q9.1 | exact h31 q9.2.1 | exact h54 q9.2.2.1 | exact hlt q9.2.2.2.1 | exact h106 q9.2.2.2.2)])
            · rfl
    · skip
      refine v_iconst (nI 1) dX6_exchangeFault_16 (by decide +kernel) ?_
      refine v_iret rfl dX6_exchangeFault_17 ⟨congrArg (fun z => some (Value.int z)) ?_, congrArg (φ shp) ?_⟩
      · exact congrArg nI (by rw [exchFl, ic_t (by first | exact Or.inl h5 | exact Or.inr h13)])
      · rfl

set_option maxRecDepth 100000 in
theorem inX6_exchanges_X6 : ∀ w ∈ wsX60, w ∈ wsX6_exchanges := by decide +kernel
set_option maxHeartbeats 4000000 in
set_option maxRecDepth 100000 in
/-- exchanges -/
theorem c_X6_exchanges (lu : Launch) (Dg : va_G) (E : Nat → ClassId) (N : Nat) (G : Nat → Nat) (shp : Nat → (Nat → Int32) → va_E) (σ : Nat → Nat → Int32) {b : Nat} (hM : ModS E G shp N b) (f0 f1 f2 f3 f4 f5 f6 : Nat → Int32) {T : Nat} (hI : Inv T f1) {p q : Nat} (hp : p < tn (f1 2)) (hq : q < tn (f1 2)) (hm : MayX f1 p q)  : CS lu yX6_exchanges wsX6_exchanges { frames := 2, cells := 0, slots := 0, locals := 45 } Dg E N G shp (mk7 σ b f0 f1 f2 f3 f4 f5 f6) [.ref (G b), .int (nI p), .int (nI q)] (some (.int (nI (plc f1 p - plc f1 q) * f1 8))) (mk7 σ b f0 (exchF f1 p q (liN f1 p) (plc f1 p) (plc f1 q) (nI (plc f1 p - plc f1 q) * f1 8)) f2 f3 f4 f5 f6) := by
  refine CS.of (cc := cX6_exchanges) (maxL := 7) (ret := (some .int)) (by decide) rfl (Nat.le_of_ble_eq_true rfl) ?_
  intro p_ e_ s_ m_ args_ below_ meth_ c_
  refine v_eq (pc' := 0) (st' := []) rfl rfl ?_
  refine v_loc [0, 1, 2] [(0, .ref (G b)), (1, .int (nI p)), (2, .int (nI q))] rfl ?_
  have hqp := hI.plcs hp hm.1
  have hqq := hI.plcs hq hm.2.1
  have hp30 := Nat.lt_of_lt_of_le hp hI.np30
  have hq30 := Nat.lt_of_lt_of_le hq hI.np30
  have hl3 := Nat.lt_of_lt_of_le hqp.1 hI.nl3
  have hk12 := hI.len12 hqp.1
  have hlt := hm.2.2.2.1
  have hkp := hqp.2.2.1
  refine v_bipush (nI 22) dX6_exchanges_0 (by decide +kernel) ?_
  refine v_bipush (nI 12) dX6_exchanges_2 (by decide +kernel) ?_
  refine v_aload_n 0 dX6_exchanges_4 rfl rfl ?_
  refine u_getr (k := 1) (C := RX6) (T := TX6) (NF := 13) hM.n hM.s rfl rfl inX6_exchanges_X6 (by decide) (by decide +kernel) rfl dX6_exchanges_5 ?_
  refine v_iload_n 1 dX6_exchanges_8 rfl rfl ?_
  refine v_iconst (nI 1) dX6_exchanges_9 (by decide +kernel) ?_
  refine u_callSv [.int (nI p), .int (nI 1)] [.ref (G (b + 1)), .int (nI 12), .int (nI 22)] 2 (c_X6_of lu Dg E N G shp (mk7 σ b f0 f1 f2 f3 f4 f5 f6) p 1) gX6_exchanges_X6_of rfl rfl rfl (by decide +kernel) rfl ⟨Nat.le_of_ble_eq_true rfl, Nat.le_of_ble_eq_true rfl⟩ ⟨Nat.le_of_ble_eq_true rfl, Nat.le_of_ble_eq_true rfl⟩ (Nat.le_of_ble_eq_true rfl) rfl dX6_exchanges_10 ?_
  refine m_ld1 (58 + 10 * p + 1) hM (rfl) (by omega) dX6_exchanges_13 ?_
  refine v_topi (nI (liN f1 p)) (hqp.2.1) ?_
  refine v_imulN dX6_exchanges_14 ?_
  refine v_iaddN dX6_exchanges_15 ?_
  refine v_istore_n [(3, .int (nI (22 + (12 * (liN f1 p))))), (0, .ref (G b)), (1, .int (nI p)), (2, .int (nI q))] dX6_exchanges_16 rfl (by decide) rfl ?_
  refine v_aload_n 1 dX6_exchanges_17 rfl rfl ?_
  refine v_iload_n 2 dX6_exchanges_18 rfl rfl ?_
  refine u_callVv [.int (nI p)] [] 1 ((c_X6_placeOf lu Dg E N G shp σ hM f0 f1 f2 f3 f4 f5 f6 (p := p) (by omega) (l := liN f1 p) (by have := hI.nl3; omega) hqp.2.1 (hI.len hqp.1) (hI.len12 hqp.1)).to (v' := some (.int (nI (plc f1 p)))) (congrArg (fun z => some (Value.int z)) hqp.2.2.2.2) rfl) (ci := 6) (C := RX6) (T := TX6) (NF := 13) hM.n hM.s rfl gX6_exchanges_X6_placeOf rfl rfl rfl (by decide +kernel) rfl ⟨Nat.le_of_ble_eq_true rfl, Nat.le_of_ble_eq_true rfl⟩ ⟨Nat.le_of_ble_eq_true rfl, Nat.le_of_ble_eq_true rfl⟩ (Nat.le_of_ble_eq_true rfl) rfl dX6_exchanges_19 ?_
  refine v_istore [(4, .int (nI (plc f1 p))), (3, .int (nI (22 + (12 * (liN f1 p))))), (0, .ref (G b)), (1, .int (nI p)), (2, .int (nI q))] dX6_exchanges_22 (by decide) rfl ?_
  refine v_aload_n 2 dX6_exchanges_24 rfl rfl ?_
  refine v_iload_n 4 dX6_exchanges_25 rfl rfl ?_
  refine u_callVv [.int (nI q)] [] 1 ((c_X6_placeOf lu Dg E N G shp σ hM f0 f1 f2 f3 f4 f5 f6 (p := q) (by omega) (l := liN f1 q) (by have := hI.nl3; omega) hqq.2.1 (hI.len hqq.1) (hI.len12 hqq.1)).to (v' := some (.int (nI (plc f1 q)))) (congrArg (fun z => some (Value.int z)) hqq.2.2.2.2) rfl) (ci := 6) (C := RX6) (T := TX6) (NF := 13) hM.n hM.s rfl gX6_exchanges_X6_placeOf rfl rfl rfl (by decide +kernel) rfl ⟨Nat.le_of_ble_eq_true rfl, Nat.le_of_ble_eq_true rfl⟩ ⟨Nat.le_of_ble_eq_true rfl, Nat.le_of_ble_eq_true rfl⟩ (Nat.le_of_ble_eq_true rfl) rfl dX6_exchanges_26 ?_
  refine v_istore [(5, .int (nI (plc f1 q))), (4, .int (nI (plc f1 p))), (3, .int (nI (22 + (12 * (liN f1 p))))), (0, .ref (G b)), (1, .int (nI p)), (2, .int (nI q))] dX6_exchanges_29 (by decide) rfl ?_
  refine v_iload 1 dX6_exchanges_31 rfl ?_
  refine v_iload 0 dX6_exchanges_33 rfl ?_
  refine v_isubN (by omega) dX6_exchanges_35 ?_
  refine v_aload_n 3 dX6_exchanges_36 rfl rfl ?_
  refine u_getr (k := 1) (C := RX6) (T := TX6) (NF := 13) hM.n hM.s rfl rfl inX6_exchanges_X6 (by decide) (by decide +kernel) rfl dX6_exchanges_37 ?_
  refine v_bipush (nI 8) dX6_exchanges_40 (by decide +kernel) ?_
  refine m_ld1 8 hM (rfl) (by omega) dX6_exchanges_42 ?_
  refine v_imul dX6_exchanges_43 ?_
  refine v_istore [(6, .int ((nI ((plc f1 p) - (plc f1 q))) * (f1 8))), (5, .int (nI (plc f1 q))), (4, .int (nI (plc f1 p))), (3, .int (nI (22 + (12 * (liN f1 p))))), (0, .ref (G b)), (1, .int (nI p)), (2, .int (nI q))] dX6_exchanges_44 (by decide) rfl ?_
  refine v_aload_n 4 dX6_exchanges_46 rfl rfl ?_
  refine u_getr (k := 1) (C := RX6) (T := TX6) (NF := 13) hM.n hM.s rfl rfl inX6_exchanges_X6 (by decide) (by decide +kernel) rfl dX6_exchanges_47 ?_
  refine v_iload_n 3 dX6_exchanges_50 rfl rfl ?_
  refine v_iload 2 dX6_exchanges_51 rfl ?_
  refine v_iaddN dX6_exchanges_53 ?_
  refine v_iload_n 6 dX6_exchanges_54 rfl rfl ?_
  refine m_st1 (22 + (12 * (liN f1 p)) + (plc f1 p)) hM (rfl) (by omega) dX6_exchanges_55 ?_
  generalize hg1 : upd f1 (22 + (12 * (liN f1 p)) + (plc f1 p)) (nI q) = g1
  refine v_aload_n 4 dX6_exchanges_56 rfl rfl ?_
  refine u_getr (k := 1) (C := RX6) (T := TX6) (NF := 13) hM.n hM.s rfl rfl inX6_exchanges_X6 (by decide) (by decide +kernel) rfl dX6_exchanges_57 ?_
  refine v_iload_n 3 dX6_exchanges_60 rfl rfl ?_
  refine v_iload 1 dX6_exchanges_61 rfl ?_
  refine v_iaddN dX6_exchanges_63 ?_
  refine v_iload_n 5 dX6_exchanges_64 rfl rfl ?_
  refine m_st1 (22 + (12 * (liN f1 p)) + (plc f1 q)) hM (rfl) (by omega) dX6_exchanges_65 ?_
  generalize hg2 : upd g1 (22 + (12 * (liN f1 p)) + (plc f1 q)) (nI p) = g2
  refine v_aload_n 4 dX6_exchanges_66 rfl rfl ?_
  refine u_getr (k := 1) (C := RX6) (T := TX6) (NF := 13) hM.n hM.s rfl rfl inX6_exchanges_X6 (by decide) (by decide +kernel) rfl dX6_exchanges_67 ?_
  refine v_iload_n 5 dX6_exchanges_70 rfl rfl ?_
  refine v_iconst (nI 3) dX6_exchanges_71 (by decide +kernel) ?_
  refine u_callSv [.int (nI p), .int (nI 3)] [.ref (G (b + 1))] 2 (c_X6_of lu Dg E N G shp (mk7 σ b f0 g2 f2 f3 f4 f5 f6) p 3) gX6_exchanges_X6_of rfl rfl rfl (by decide +kernel) rfl ⟨Nat.le_of_ble_eq_true rfl, Nat.le_of_ble_eq_true rfl⟩ ⟨Nat.le_of_ble_eq_true rfl, Nat.le_of_ble_eq_true rfl⟩ (Nat.le_of_ble_eq_true rfl) rfl dX6_exchanges_72 ?_
  refine v_dup2 dX6_exchanges_75 rfl rfl ?_
  refine m_ld1 (58 + 10 * p + 3) hM (rfl) (by omega) dX6_exchanges_76 ?_
  refine v_iload 0 dX6_exchanges_77 rfl ?_
  refine v_isub dX6_exchanges_79 ?_
  refine m_st1 (58 + 10 * p + 3) hM (rfl) (by omega) dX6_exchanges_80 ?_
  generalize hg3 : upd g2 (58 + 10 * p + 3) ((g2 (58 + 10 * p + 3)) - ((nI ((plc f1 p) - (plc f1 q))) * (f1 8))) = g3
  refine v_aload_n 4 dX6_exchanges_81 rfl rfl ?_
  refine u_getr (k := 1) (C := RX6) (T := TX6) (NF := 13) hM.n hM.s rfl rfl inX6_exchanges_X6 (by decide) (by decide +kernel) rfl dX6_exchanges_82 ?_
  refine v_iload_n 6 dX6_exchanges_85 rfl rfl ?_
  refine v_iconst (nI 3) dX6_exchanges_86 (by decide +kernel) ?_
  refine u_callSv [.int (nI q), .int (nI 3)] [.ref (G (b + 1))] 2 (c_X6_of lu Dg E N G shp (mk7 σ b f0 g3 f2 f3 f4 f5 f6) q 3) gX6_exchanges_X6_of rfl rfl rfl (by decide +kernel) rfl ⟨Nat.le_of_ble_eq_true rfl, Nat.le_of_ble_eq_true rfl⟩ ⟨Nat.le_of_ble_eq_true rfl, Nat.le_of_ble_eq_true rfl⟩ (Nat.le_of_ble_eq_true rfl) rfl dX6_exchanges_87 ?_
  refine v_dup2 dX6_exchanges_90 rfl rfl ?_
  refine m_ld1 (58 + 10 * q + 3) hM (rfl) (by omega) dX6_exchanges_91 ?_
  refine v_iload 0 dX6_exchanges_92 rfl ?_
  refine v_iadd dX6_exchanges_94 ?_
  refine m_st1 (58 + 10 * q + 3) hM (rfl) (by omega) dX6_exchanges_95 ?_
  generalize hg4 : upd g3 (58 + 10 * q + 3) ((g3 (58 + 10 * q + 3)) + ((nI ((plc f1 p) - (plc f1 q))) * (f1 8))) = g4
  refine v_aload_n 4 dX6_exchanges_96 rfl rfl ?_
  refine u_getr (k := 1) (C := RX6) (T := TX6) (NF := 13) hM.n hM.s rfl rfl inX6_exchanges_X6 (by decide) (by decide +kernel) rfl dX6_exchanges_97 ?_
  refine v_iload_n 5 dX6_exchanges_100 rfl rfl ?_
  refine v_bipush (nI 7) dX6_exchanges_101 (by decide +kernel) ?_
  refine u_callSv [.int (nI p), .int (nI 7)] [.ref (G (b + 1))] 2 (c_X6_of lu Dg E N G shp (mk7 σ b f0 g4 f2 f3 f4 f5 f6) p 7) gX6_exchanges_X6_of rfl rfl rfl (by decide +kernel) rfl ⟨Nat.le_of_ble_eq_true rfl, Nat.le_of_ble_eq_true rfl⟩ ⟨Nat.le_of_ble_eq_true rfl, Nat.le_of_ble_eq_true rfl⟩ (Nat.le_of_ble_eq_true rfl) rfl dX6_exchanges_103 ?_
  refine v_dup2 dX6_exchanges_106 rfl rfl ?_
  refine m_ld1 (58 + 10 * p + 7) hM (rfl) (by omega) dX6_exchanges_107 ?_
  refine v_iload 2 dX6_exchanges_108 rfl ?_
  refine v_iload 1 dX6_exchanges_110 rfl ?_
  refine v_isubN (by omega) dX6_exchanges_112 ?_
  refine v_isub dX6_exchanges_113 ?_
  refine m_st1 (58 + 10 * p + 7) hM (rfl) (by omega) dX6_exchanges_114 ?_
  generalize hg5 : upd g4 (58 + 10 * p + 7) ((g4 (58 + 10 * p + 7)) - (nI ((plc f1 p) - (plc f1 q)))) = g5
  refine v_aload_n 4 dX6_exchanges_115 rfl rfl ?_
  refine u_getr (k := 1) (C := RX6) (T := TX6) (NF := 13) hM.n hM.s rfl rfl inX6_exchanges_X6 (by decide) (by decide +kernel) rfl dX6_exchanges_116 ?_
  refine v_iload_n 6 dX6_exchanges_119 rfl rfl ?_
  refine v_bipush (nI 7) dX6_exchanges_120 (by decide +kernel) ?_
  refine u_callSv [.int (nI q), .int (nI 7)] [.ref (G (b + 1))] 2 (c_X6_of lu Dg E N G shp (mk7 σ b f0 g5 f2 f3 f4 f5 f6) q 7) gX6_exchanges_X6_of rfl rfl rfl (by decide +kernel) rfl ⟨Nat.le_of_ble_eq_true rfl, Nat.le_of_ble_eq_true rfl⟩ ⟨Nat.le_of_ble_eq_true rfl, Nat.le_of_ble_eq_true rfl⟩ (Nat.le_of_ble_eq_true rfl) rfl dX6_exchanges_122 ?_
  refine v_dup2 dX6_exchanges_125 rfl rfl ?_
  refine m_ld1 (58 + 10 * q + 7) hM (rfl) (by omega) dX6_exchanges_126 ?_
  refine v_iload 2 dX6_exchanges_127 rfl ?_
  refine v_iload 1 dX6_exchanges_129 rfl ?_
  refine v_isubN (by omega) dX6_exchanges_131 ?_
  refine v_iadd dX6_exchanges_132 ?_
  refine m_st1 (58 + 10 * q + 7) hM (rfl) (by omega) dX6_exchanges_133 ?_
  generalize hg6 : upd g5 (58 + 10 * q + 7) ((g5 (58 + 10 * q + 7)) + (nI ((plc f1 p) - (plc f1 q)))) = g6
  refine v_aload_n 4 dX6_exchanges_134 rfl rfl ?_
  refine u_getr (k := 1) (C := RX6) (T := TX6) (NF := 13) hM.n hM.s rfl rfl inX6_exchanges_X6 (by decide) (by decide +kernel) rfl dX6_exchanges_135 ?_
  refine v_iconst (nI 3) dX6_exchanges_138 (by decide +kernel) ?_
  refine v_dup2 dX6_exchanges_139 rfl rfl ?_
  refine m_ld1 3 hM (rfl) (by omega) dX6_exchanges_140 ?_
  refine v_iconst (nI 1) dX6_exchanges_141 (by decide +kernel) ?_
  refine v_iadd dX6_exchanges_142 ?_
  refine m_st1 3 hM (rfl) (by omega) dX6_exchanges_143 ?_
  generalize hg7 : upd g6 3 ((g6 3) + (nI 1)) = g7
  refine v_iload 0 dX6_exchanges_144 rfl ?_
  refine v_iret rfl dX6_exchanges_146 ⟨congrArg (fun z => some (Value.int z)) ?_, congrArg (φ shp) ?_⟩
  · rfl
  · subst hg1; subst hg2; subst hg3; subst hg4; subst hg5; subst hg6; subst hg7; rfl

theorem nI5 : (5 : Int32) = nI 5 := by decide +kernel
set_option maxRecDepth 100000 in
theorem inX6_jumpFault_X6 : ∀ w ∈ wsX60, w ∈ wsX6_jumpFault := by decide +kernel
set_option maxHeartbeats 4000000 in
set_option maxRecDepth 100000 in
/-- jumpFault -/
theorem c_X6_jumpFault (lu : Launch) (Dg : va_G) (E : Nat → ClassId) (N : Nat) (G : Nat → Nat) (shp : Nat → (Nat → Int32) → va_E) (σ : Nat → Nat → Int32) {b : Nat} (hM : ModS E G shp N b) (f0 f1 f2 f3 f4 f5 f6 : Nat → Int32) {T : Nat} (hI : Inv T f1) (x : Int32)  : CS lu yX6_jumpFault wsX6_jumpFault { frames := 2, cells := 0, slots := 0, locals := 45 } Dg E N G shp (mk7 σ b f0 f1 f2 f3 f4 f5 f6) [.ref (G b), .int x] (some (.int (nI (jumpFl f1 x)))) (mk7 σ b f0 f1 f2 f3 f4 f5 f6) := by
  refine CS.of (cc := cX6_jumpFault) (maxL := 2) (ret := (some .int)) (by decide) rfl (Nat.le_of_ble_eq_true rfl) ?_
  intro p_ e_ s_ m_ args_ below_ meth_ c_
  refine v_eq (pc' := 0) (st' := []) rfl rfl ?_
  refine v_loc [0, 1] [(0, .ref (G b)), (1, .int x)] rfl ?_
  refine v_aload_n 0 dX6_jumpFault_0 rfl rfl ?_
  refine v_iload_n 1 dX6_jumpFault_1 rfl rfl ?_
  refine u_callVv [.int x] [] 1 (c_X6_isPerson lu Dg E N G shp σ hM f0 f1 f2 f3 f4 f5 f6 hI.np (by have := hI.np30; omega) (x)) (ci := 6) (C := RX6) (T := TX6) (NF := 13) hM.n hM.s rfl gX6_jumpFault_X6_isPerson rfl rfl rfl (by decide +kernel) rfl ⟨Nat.le_of_ble_eq_true rfl, Nat.le_of_ble_eq_true rfl⟩ ⟨Nat.le_of_ble_eq_true rfl, Nat.le_of_ble_eq_true rfl⟩ (Nat.le_of_ble_eq_true rfl) rfl dX6_jumpFault_2 ?_
  refine v_if_neB 10 dX6_jumpFault_5 rfl (fun h5 => ?_) (fun h5 => ?_)
  · skip
    obtain ⟨p, hp, rfl⟩ := h5
    have hp30 := Nat.lt_of_lt_of_le hp hI.np30
    refine v_aload_n 0 dX6_jumpFault_10 rfl rfl ?_
    refine v_iload_n 1 dX6_jumpFault_11 rfl rfl ?_
    refine u_callVv [.int (nI p)] [] 1 (c_X6_isStanding lu Dg E N G shp σ hM f0 f1 f2 f3 f4 f5 f6 p (by omega)) (ci := 6) (C := RX6) (T := TX6) (NF := 13) hM.n hM.s rfl gX6_jumpFault_X6_isStanding rfl rfl rfl (by decide +kernel) rfl ⟨Nat.le_of_ble_eq_true rfl, Nat.le_of_ble_eq_true rfl⟩ ⟨Nat.le_of_ble_eq_true rfl, Nat.le_of_ble_eq_true rfl⟩ (Nat.le_of_ble_eq_true rfl) rfl dX6_jumpFault_12 ?_
    refine v_if_eqB 77 dX6_jumpFault_15 rfl (fun h15 => ?_) (fun h15 => ?_)
    · skip
      refine v_iconst (nI 2) dX6_jumpFault_77 (by decide +kernel) ?_
      refine v_goto 82 dX6_jumpFault_78 rfl ?_
      refine v_iret rfl dX6_jumpFault_82 ⟨congrArg (fun z => some (Value.int z)) ?_, congrArg (φ shp) ?_⟩
      · exact congrArg nI (by rw [jumpFl, ic_f (not_not_intro ⟨p, hp, rfl⟩), tn_nI (by omega), ic_f (fun q9 => by first | exact h15 q9.1 | exact q9.2.1 h28 | (have := q9.2.2.1; omega) | (rcases q9.2.2.2 with q8 | q8; exact h74 q8; exact h58 (nI5 ▸ q8)))])
      · rfl
    · skip
      have hqp := hI.plcs hp h15
      refine v_aload_n 0 dX6_jumpFault_18 rfl rfl ?_
      refine u_getr (k := 1) (C := RX6) (T := TX6) (NF := 13) hM.n hM.s rfl rfl inX6_jumpFault_X6 (by decide) (by decide +kernel) rfl dX6_jumpFault_19 ?_
      refine v_iload_n 1 dX6_jumpFault_22 rfl rfl ?_
      refine v_iconst (nI 0) dX6_jumpFault_23 (by decide +kernel) ?_
      refine u_callSv [.int (nI p), .int (nI 0)] [.ref (G (b + 1))] 2 (c_X6_of lu Dg E N G shp (mk7 σ b f0 f1 f2 f3 f4 f5 f6) p 0) gX6_jumpFault_X6_of rfl rfl rfl (by decide +kernel) rfl ⟨Nat.le_of_ble_eq_true rfl, Nat.le_of_ble_eq_true rfl⟩ ⟨Nat.le_of_ble_eq_true rfl, Nat.le_of_ble_eq_true rfl⟩ (Nat.le_of_ble_eq_true rfl) rfl dX6_jumpFault_24 ?_
      refine m_ld1 (58 + 10 * p + 0) hM (rfl) (by omega) dX6_jumpFault_27 ?_
      refine v_if_eq 77 dX6_jumpFault_28 rfl (fun h28 => ?_) (fun h28 => ?_)
      · skip
        refine v_iconst (nI 2) dX6_jumpFault_77 (by decide +kernel) ?_
        refine v_goto 82 dX6_jumpFault_78 rfl ?_
        refine v_iret rfl dX6_jumpFault_82 ⟨congrArg (fun z => some (Value.int z)) ?_, congrArg (φ shp) ?_⟩
        · exact congrArg nI (by rw [jumpFl, ic_f (not_not_intro ⟨p, hp, rfl⟩), tn_nI (by omega), ic_f (fun q9 => by first | exact h15 q9.1 | exact q9.2.1 h28 | (have := q9.2.2.1; omega) | (rcases q9.2.2.2 with q8 | q8; exact h74 q8; exact h58 (nI5 ▸ q8)))])
        · rfl
      · skip
        refine v_aload_n 0 dX6_jumpFault_31 rfl rfl ?_
        refine v_iload_n 1 dX6_jumpFault_32 rfl rfl ?_
        refine u_callVv [.int (nI p)] [] 1 ((c_X6_placeOf lu Dg E N G shp σ hM f0 f1 f2 f3 f4 f5 f6 (p := p) (by omega) (l := liN f1 p) (by have := hI.nl3; omega) hqp.2.1 (hI.len hqp.1) (hI.len12 hqp.1)).to (v' := some (.int (nI (plc f1 p)))) (congrArg (fun z => some (Value.int z)) hqp.2.2.2.2) rfl) (ci := 6) (C := RX6) (T := TX6) (NF := 13) hM.n hM.s rfl gX6_jumpFault_X6_placeOf rfl rfl rfl (by decide +kernel) rfl ⟨Nat.le_of_ble_eq_true rfl, Nat.le_of_ble_eq_true rfl⟩ ⟨Nat.le_of_ble_eq_true rfl, Nat.le_of_ble_eq_true rfl⟩ (Nat.le_of_ble_eq_true rfl) rfl dX6_jumpFault_33 ?_
        refine v_if_eqN 77 (by have := hI.len12 hqp.1; have := hqp.2.2.1; omega) dX6_jumpFault_36 rfl (fun h36 => ?_) (fun h36 => ?_)
        · skip
          refine v_iconst (nI 2) dX6_jumpFault_77 (by decide +kernel) ?_
          refine v_goto 82 dX6_jumpFault_78 rfl ?_
          refine v_iret rfl dX6_jumpFault_82 ⟨congrArg (fun z => some (Value.int z)) ?_, congrArg (φ shp) ?_⟩
          · exact congrArg nI (by rw [jumpFl, ic_f (not_not_intro ⟨p, hp, rfl⟩), tn_nI (by omega), ic_f (fun q9 => by first | exact h15 q9.1 | exact q9.2.1 h28 | (have := q9.2.2.1; omega) | (rcases q9.2.2.2 with q8 | q8; exact h74 q8; exact h58 (nI5 ▸ q8)))])
          · rfl
        · skip
          refine v_aload_n 0 dX6_jumpFault_39 rfl rfl ?_
          refine u_getr (k := 1) (C := RX6) (T := TX6) (NF := 13) hM.n hM.s rfl rfl inX6_jumpFault_X6 (by decide) (by decide +kernel) rfl dX6_jumpFault_40 ?_
          refine v_iconst (nI 0) dX6_jumpFault_43 (by decide +kernel) ?_
          refine m_ld1 0 hM (rfl) (by omega) dX6_jumpFault_44 ?_
          refine v_aload_n 0 dX6_jumpFault_45 rfl rfl ?_
          refine u_getr (k := 1) (C := RX6) (T := TX6) (NF := 13) hM.n hM.s rfl rfl inX6_jumpFault_X6 (by decide) (by decide +kernel) rfl dX6_jumpFault_46 ?_
          refine v_iload_n 1 dX6_jumpFault_49 rfl rfl ?_
          refine v_bipush (nI 8) dX6_jumpFault_50 (by decide +kernel) ?_
          refine u_callSv [.int (nI p), .int (nI 8)] [.ref (G (b + 1)), .int (f1 0)] 2 (c_X6_of lu Dg E N G shp (mk7 σ b f0 f1 f2 f3 f4 f5 f6) p 8) gX6_jumpFault_X6_of rfl rfl rfl (by decide +kernel) rfl ⟨Nat.le_of_ble_eq_true rfl, Nat.le_of_ble_eq_true rfl⟩ ⟨Nat.le_of_ble_eq_true rfl, Nat.le_of_ble_eq_true rfl⟩ (Nat.le_of_ble_eq_true rfl) rfl dX6_jumpFault_52 ?_
          refine m_ld1 (58 + 10 * p + 8) hM (rfl) (by omega) dX6_jumpFault_55 ?_
          refine v_isub dX6_jumpFault_56 ?_
          refine v_iconst (nI 5) dX6_jumpFault_57 (by decide +kernel) ?_
          refine v_icmp_ge 81 dX6_jumpFault_58 rfl (fun h58 => ?_) (fun h58 => ?_)
          · skip
            refine v_iconst (nI 0) dX6_jumpFault_81 (by decide +kernel) ?_
            refine v_iret rfl dX6_jumpFault_82 ⟨congrArg (fun z => some (Value.int z)) ?_, congrArg (φ shp) ?_⟩
            · exact congrArg nI (by rw [jumpFl, ic_f (not_not_intro ⟨p, hp, rfl⟩), tn_nI (by omega), ic_t ⟨h15, h28, h36, by first | exact Or.inl h74 | exact Or.inr (nI5 ▸ h58)⟩])
            · rfl
          · skip
            refine v_aload_n 0 dX6_jumpFault_61 rfl rfl ?_
            refine u_getr (k := 1) (C := RX6) (T := TX6) (NF := 13) hM.n hM.s rfl rfl inX6_jumpFault_X6 (by decide) (by decide +kernel) rfl dX6_jumpFault_62 ?_
            refine v_iload_n 1 dX6_jumpFault_65 rfl rfl ?_
            refine v_bipush (nI 8) dX6_jumpFault_66 (by decide +kernel) ?_
            refine u_callSv [.int (nI p), .int (nI 8)] [.ref (G (b + 1))] 2 (c_X6_of lu Dg E N G shp (mk7 σ b f0 f1 f2 f3 f4 f5 f6) p 8) gX6_jumpFault_X6_of rfl rfl rfl (by decide +kernel) rfl ⟨Nat.le_of_ble_eq_true rfl, Nat.le_of_ble_eq_true rfl⟩ ⟨Nat.le_of_ble_eq_true rfl, Nat.le_of_ble_eq_true rfl⟩ (Nat.le_of_ble_eq_true rfl) rfl dX6_jumpFault_68 ?_
            refine m_ld1 (58 + 10 * p + 8) hM (rfl) (by omega) dX6_jumpFault_71 ?_
            refine v_bipush ((-9)) dX6_jumpFault_72 (by decide +kernel) ?_
            refine v_icmp_eq 81 dX6_jumpFault_74 rfl (fun h74 => ?_) (fun h74 => ?_)
            · skip
              refine v_iconst (nI 0) dX6_jumpFault_81 (by decide +kernel) ?_
              refine v_iret rfl dX6_jumpFault_82 ⟨congrArg (fun z => some (Value.int z)) ?_, congrArg (φ shp) ?_⟩
              · exact congrArg nI (by rw [jumpFl, ic_f (not_not_intro ⟨p, hp, rfl⟩), tn_nI (by omega), ic_t ⟨h15, h28, h36, by first | exact Or.inl h74 | exact Or.inr (nI5 ▸ h58)⟩])
              · rfl
            · skip
              refine v_iconst (nI 2) dX6_jumpFault_77 (by decide +kernel) ?_
              refine v_goto 82 dX6_jumpFault_78 rfl ?_
              refine v_iret rfl dX6_jumpFault_82 ⟨congrArg (fun z => some (Value.int z)) ?_, congrArg (φ shp) ?_⟩
              · exact congrArg nI (by rw [jumpFl, ic_f (not_not_intro ⟨p, hp, rfl⟩), tn_nI (by omega), ic_f (fun q9 => by first | exact h15 q9.1 | exact q9.2.1 h28 | (have := q9.2.2.1; omega) | (rcases q9.2.2.2 with q8 | q8; exact h74 q8; exact h58 (nI5 ▸ q8)))])
              · rfl
  · skip
    refine v_iconst (nI 1) dX6_jumpFault_8 (by decide +kernel) ?_
    refine v_iret rfl dX6_jumpFault_9 ⟨congrArg (fun z => some (Value.int z)) ?_, congrArg (φ shp) ?_⟩
    · exact congrArg nI (by rw [jumpFl, ic_t h5])
    · rfl

set_option maxRecDepth 100000 in
theorem inX6_mergeFault_X6 : ∀ w ∈ wsX60, w ∈ wsX6_mergeFault := by decide +kernel
set_option maxHeartbeats 4000000 in
set_option maxRecDepth 100000 in
/-- mergeFault -/
theorem c_X6_mergeFault (lu : Launch) (Dg : va_G) (E : Nat → ClassId) (N : Nat) (G : Nat → Nat) (shp : Nat → (Nat → Int32) → va_E) (σ : Nat → Nat → Int32) {b : Nat} (hM : ModS E G shp N b) (f0 f1 f2 f3 f4 f5 f6 : Nat → Int32) {T : Nat} (hI : Inv T f1) (x y : Int32)  : CS lu yX6_mergeFault wsX6_mergeFault { frames := 2, cells := 0, slots := 0, locals := 43 } Dg E N G shp (mk7 σ b f0 f1 f2 f3 f4 f5 f6) [.ref (G b), .int x, .int y] (some (.int (nI (mergeFl f1 x y)))) (mk7 σ b f0 f1 f2 f3 f4 f5 f6) := by
  refine CS.of (cc := cX6_mergeFault) (maxL := 3) (ret := (some .int)) (by decide) rfl (Nat.le_of_ble_eq_true rfl) ?_
  intro p_ e_ s_ m_ args_ below_ meth_ c_
  refine v_eq (pc' := 0) (st' := []) rfl rfl ?_
  refine v_loc [0, 1, 2] [(0, .ref (G b)), (1, .int x), (2, .int y)] rfl ?_
  refine v_aload_n 0 dX6_mergeFault_0 rfl rfl ?_
  refine v_iload_n 1 dX6_mergeFault_1 rfl rfl ?_
  refine u_callVv [.int x] [] 1 (c_X6_isLine lu Dg E N G shp σ hM f0 f1 f2 f3 f4 f5 f6 hI.nl (by have := hI.nl3; omega) (x)) (ci := 6) (C := RX6) (T := TX6) (NF := 13) hM.n hM.s rfl gX6_mergeFault_X6_isLine rfl rfl rfl (by decide +kernel) rfl ⟨Nat.le_of_ble_eq_true rfl, Nat.le_of_ble_eq_true rfl⟩ ⟨Nat.le_of_ble_eq_true rfl, Nat.le_of_ble_eq_true rfl⟩ (Nat.le_of_ble_eq_true rfl) rfl dX6_mergeFault_2 ?_
  refine v_if_eqB 16 dX6_mergeFault_5 rfl (fun h5 => ?_) (fun h5 => ?_)
  · skip
    refine v_iconst (nI 1) dX6_mergeFault_16 (by decide +kernel) ?_
    refine v_iret rfl dX6_mergeFault_17 ⟨congrArg (fun z => some (Value.int z)) ?_, congrArg (φ shp) ?_⟩
    · exact congrArg nI (by rw [mergeFl, ic_t (by first | exact Or.inl h5 | exact Or.inr h13)])
    · rfl
  · skip
    obtain ⟨p, hp, rfl⟩ := h5
    have hp3 := Nat.lt_of_lt_of_le hp hI.nl3
    refine v_aload_n 0 dX6_mergeFault_8 rfl rfl ?_
    refine v_iload_n 2 dX6_mergeFault_9 rfl rfl ?_
    refine u_callVv [.int y] [] 1 (c_X6_isLine lu Dg E N G shp σ hM f0 f1 f2 f3 f4 f5 f6 hI.nl (by have := hI.nl3; omega) (y)) (ci := 6) (C := RX6) (T := TX6) (NF := 13) hM.n hM.s rfl gX6_mergeFault_X6_isLine rfl rfl rfl (by decide +kernel) rfl ⟨Nat.le_of_ble_eq_true rfl, Nat.le_of_ble_eq_true rfl⟩ ⟨Nat.le_of_ble_eq_true rfl, Nat.le_of_ble_eq_true rfl⟩ (Nat.le_of_ble_eq_true rfl) rfl dX6_mergeFault_10 ?_
    refine v_if_neB 18 dX6_mergeFault_13 rfl (fun h13 => ?_) (fun h13 => ?_)
    · skip
      obtain ⟨q, hq, rfl⟩ := h13
      have hq3 := Nat.lt_of_lt_of_le hq hI.nl3
      refine v_iload_n 1 dX6_mergeFault_18 rfl rfl ?_
      refine v_iload_n 2 dX6_mergeFault_19 rfl rfl ?_
      refine v_icmp_neN 27 (by omega) (by omega) dX6_mergeFault_20 rfl (fun h20 => ?_) (fun h20 => ?_)
      · skip
        refine v_aload_n 0 dX6_mergeFault_27 rfl rfl ?_
        refine u_getr (k := 1) (C := RX6) (T := TX6) (NF := 13) hM.n hM.s rfl rfl inX6_mergeFault_X6 (by decide) (by decide +kernel) rfl dX6_mergeFault_28 ?_
        refine v_bipush (nI 13) dX6_mergeFault_31 (by decide +kernel) ?_
        refine v_iload_n 1 dX6_mergeFault_33 rfl rfl ?_
        refine v_iaddN dX6_mergeFault_34 ?_
        refine m_ld1 (13 + p) hM (rfl) (by omega) dX6_mergeFault_35 ?_
        refine v_topi (nI (tn (f1 (13 + p)))) (hI.len hp) ?_
        refine v_aload_n 0 dX6_mergeFault_36 rfl rfl ?_
        refine u_getr (k := 1) (C := RX6) (T := TX6) (NF := 13) hM.n hM.s rfl rfl inX6_mergeFault_X6 (by decide) (by decide +kernel) rfl dX6_mergeFault_37 ?_
        refine v_bipush (nI 13) dX6_mergeFault_40 (by decide +kernel) ?_
        refine v_iload_n 2 dX6_mergeFault_42 rfl rfl ?_
        refine v_iaddN dX6_mergeFault_43 ?_
        refine m_ld1 (13 + q) hM (rfl) (by omega) dX6_mergeFault_44 ?_
        refine v_topi (nI (tn (f1 (13 + q)))) (hI.len hq) ?_
        refine v_iaddN dX6_mergeFault_45 ?_
        refine v_bipush (nI 12) dX6_mergeFault_46 (by decide +kernel) ?_
        refine v_icmp_leN 55 (by have := hI.len12 hp; have := hI.len12 hq; omega) (by omega) dX6_mergeFault_48 rfl (fun h48 => ?_) (fun h48 => ?_)
        · skip
          refine v_iconst (nI 0) dX6_mergeFault_55 (by decide +kernel) ?_
          refine v_iret rfl dX6_mergeFault_56 ⟨congrArg (fun z => some (Value.int z)) ?_, congrArg (φ shp) ?_⟩
          · exact congrArg nI (by rw [mergeFl, ic_f (by rintro (q9 | q9); exact q9 ⟨p, hp, rfl⟩; exact q9 ⟨q, hq, rfl⟩), ic_f (fun e => h20 ((nI_eq (by omega) (by omega)).mp e)), tn_nI (by omega), tn_nI (by omega), ic_t h48])
          · rfl
        · skip
          refine v_iconst (nI 3) dX6_mergeFault_51 (by decide +kernel) ?_
          refine v_goto 56 dX6_mergeFault_52 rfl ?_
          refine v_iret rfl dX6_mergeFault_56 ⟨congrArg (fun z => some (Value.int z)) ?_, congrArg (φ shp) ?_⟩
          · exact congrArg nI (by rw [mergeFl, ic_f (by rintro (q9 | q9); exact q9 ⟨p, hp, rfl⟩; exact q9 ⟨q, hq, rfl⟩), ic_f (fun e => h20 ((nI_eq (by omega) (by omega)).mp e)), tn_nI (by omega), tn_nI (by omega), ic_f (by omega)])
          · rfl
      · skip
        refine v_iconst (nI 2) dX6_mergeFault_23 (by decide +kernel) ?_
        refine v_goto 56 dX6_mergeFault_24 rfl ?_
        refine v_iret rfl dX6_mergeFault_56 ⟨congrArg (fun z => some (Value.int z)) ?_, congrArg (φ shp) ?_⟩
        · exact congrArg nI (by rw [mergeFl, ic_f (by rintro (q9 | q9); exact q9 ⟨p, hp, rfl⟩; exact q9 ⟨q, hq, rfl⟩), ic_t (congrArg nI h20)])
        · rfl
    · skip
      refine v_iconst (nI 1) dX6_mergeFault_16 (by decide +kernel) ?_
      refine v_iret rfl dX6_mergeFault_17 ⟨congrArg (fun z => some (Value.int z)) ?_, congrArg (φ shp) ?_⟩
      · exact congrArg nI (by rw [mergeFl, ic_t (by first | exact Or.inl h5 | exact Or.inr h13)])
      · rfl

set_option maxRecDepth 100000 in
theorem inX6_isAhead_X6 : ∀ w ∈ wsX60, w ∈ wsX6_isAhead := by decide +kernel
set_option maxHeartbeats 4000000 in
set_option maxRecDepth 100000 in
/-- isAhead -/
theorem c_X6_isAhead (lu : Launch) (Dg : va_G) (E : Nat → ClassId) (N : Nat) (G : Nat → Nat) (shp : Nat → (Nat → Int32) → va_E) (σ : Nat → Nat → Int32) {b : Nat} (hM : ModS E G shp N b) (f0 f1 f2 f3 f4 f5 f6 : Nat → Int32) {p q : Nat} (hp : p < 30) (hq : q < 30)  : CS lu yX6_isAhead wsX6_isAhead { frames := 1, cells := 0, slots := 0, locals := 21 } Dg E N G shp (mk7 σ b f0 f1 f2 f3 f4 f5 f6) [.ref (G b), .int (nI p), .int (nI q)] (some (.int (bi (Ahead f1 p q)))) (mk7 σ b f0 f1 f2 f3 f4 f5 f6) := by
  refine CS.of (cc := cX6_isAhead) (maxL := 4) (ret := (some .boolean)) (by decide) rfl (Nat.le_of_ble_eq_true rfl) ?_
  intro p_ e_ s_ m_ args_ below_ meth_ c_
  refine v_eq (pc' := 0) (st' := []) rfl rfl ?_
  refine v_loc [0, 1, 2] [(0, .ref (G b)), (1, .int (nI p)), (2, .int (nI q))] rfl ?_
  refine v_aload_n 0 dX6_isAhead_0 rfl rfl ?_
  refine u_getr (k := 1) (C := RX6) (T := TX6) (NF := 13) hM.n hM.s rfl rfl inX6_isAhead_X6 (by decide) (by decide +kernel) rfl dX6_isAhead_1 ?_
  refine v_iload_n 1 dX6_isAhead_4 rfl rfl ?_
  refine v_iconst (nI 2) dX6_isAhead_5 (by decide +kernel) ?_
  refine u_callSv [.int (nI p), .int (nI 2)] [.ref (G (b + 1))] 2 (c_X6_of lu Dg E N G shp (mk7 σ b f0 f1 f2 f3 f4 f5 f6) p 2) gX6_isAhead_X6_of rfl rfl rfl (by decide +kernel) rfl ⟨Nat.le_of_ble_eq_true rfl, Nat.le_of_ble_eq_true rfl⟩ ⟨Nat.le_of_ble_eq_true rfl, Nat.le_of_ble_eq_true rfl⟩ (Nat.le_of_ble_eq_true rfl) rfl dX6_isAhead_6 ?_
  refine m_ld1 (58 + 10 * p + 2) hM (rfl) (by omega) dX6_isAhead_9 ?_
  refine v_aload_n 0 dX6_isAhead_10 rfl rfl ?_
  refine u_getr (k := 1) (C := RX6) (T := TX6) (NF := 13) hM.n hM.s rfl rfl inX6_isAhead_X6 (by decide) (by decide +kernel) rfl dX6_isAhead_11 ?_
  refine v_iload_n 2 dX6_isAhead_14 rfl rfl ?_
  refine v_iconst (nI 2) dX6_isAhead_15 (by decide +kernel) ?_
  refine u_callSv [.int (nI q), .int (nI 2)] [.ref (G (b + 1)), .int (f1 (58 + 10 * p + 2))] 2 (c_X6_of lu Dg E N G shp (mk7 σ b f0 f1 f2 f3 f4 f5 f6) q 2) gX6_isAhead_X6_of rfl rfl rfl (by decide +kernel) rfl ⟨Nat.le_of_ble_eq_true rfl, Nat.le_of_ble_eq_true rfl⟩ ⟨Nat.le_of_ble_eq_true rfl, Nat.le_of_ble_eq_true rfl⟩ (Nat.le_of_ble_eq_true rfl) rfl dX6_isAhead_16 ?_
  refine m_ld1 (58 + 10 * q + 2) hM (rfl) (by omega) dX6_isAhead_19 ?_
  refine v_isub dX6_isAhead_20 ?_
  refine v_istore_n [(3, .int ((f1 (58 + 10 * p + 2)) - (f1 (58 + 10 * q + 2)))), (0, .ref (G b)), (1, .int (nI p)), (2, .int (nI q))] dX6_isAhead_21 rfl (by decide) rfl ?_
  refine v_iload_n 0 dX6_isAhead_22 rfl rfl ?_
  refine v_if_gt 35 dX6_isAhead_23 rfl (fun h23 => ?_) (fun h23 => ?_)
  · skip
    refine v_iconst (nI 1) dX6_isAhead_35 (by decide +kernel) ?_
    refine v_goto 40 dX6_isAhead_36 rfl ?_
    refine v_zret rfl (by decide +kernel) dX6_isAhead_40 ⟨congrArg (fun z => some (Value.int z)) ?_, congrArg (φ shp) ?_⟩
    · exact bi_nt (by first | exact Or.inl h23 | exact Or.inr ⟨h27, h32⟩)
    · rfl
  · skip
    refine v_iload_n 0 dX6_isAhead_26 rfl rfl ?_
    refine v_if_ne 39 dX6_isAhead_27 rfl (fun h27 => ?_) (fun h27 => ?_)
    · skip
      refine v_iconst (nI 0) dX6_isAhead_39 (by decide +kernel) ?_
      refine v_zret rfl (by decide +kernel) dX6_isAhead_40 ⟨congrArg (fun z => some (Value.int z)) ?_, congrArg (φ shp) ?_⟩
      · exact bi_nf (by rintro (q9 | q9) <;> first | exact h23 q9 | exact h27 q9.1 | (have := q9.2; omega))
      · rfl
    · skip
      refine v_iload_n 2 dX6_isAhead_30 rfl rfl ?_
      refine v_iload_n 3 dX6_isAhead_31 rfl rfl ?_
      refine v_icmp_geN 39 (by omega) (by omega) dX6_isAhead_32 rfl (fun h32 => ?_) (fun h32 => ?_)
      · skip
        refine v_iconst (nI 0) dX6_isAhead_39 (by decide +kernel) ?_
        refine v_zret rfl (by decide +kernel) dX6_isAhead_40 ⟨congrArg (fun z => some (Value.int z)) ?_, congrArg (φ shp) ?_⟩
        · exact bi_nf (by rintro (q9 | q9) <;> first | exact h23 q9 | exact h27 q9.1 | (have := q9.2; omega))
        · rfl
      · skip
        refine v_iconst (nI 1) dX6_isAhead_35 (by decide +kernel) ?_
        refine v_goto 40 dX6_isAhead_36 rfl ?_
        refine v_zret rfl (by decide +kernel) dX6_isAhead_40 ⟨congrArg (fun z => some (Value.int z)) ?_, congrArg (φ shp) ?_⟩
        · exact bi_nt (by first | exact Or.inl h23 | exact Or.inr ⟨h27, h32⟩)
        · rfl

set_option maxRecDepth 100000 in
theorem inX6_pays_X6 : ∀ w ∈ wsX60, w ∈ wsX6_pays := by decide +kernel
set_option maxHeartbeats 4000000 in
set_option maxRecDepth 100000 in
/-- pays -/
theorem c_X6_pays (lu : Launch) (Dg : va_G) (E : Nat → ClassId) (N : Nat) (G : Nat → Nat) (shp : Nat → (Nat → Int32) → va_E) (σ : Nat → Nat → Int32) {b : Nat} (hM : ModS E G shp N b) (f0 f1 f2 f3 f4 f5 f6 : Nat → Int32) {p : Nat} (hp : p < 30)  : CS lu yX6_pays wsX6_pays { frames := 2, cells := 0, slots := 0, locals := 42 } Dg E N G shp (mk7 σ b f0 f1 f2 f3 f4 f5 f6) [.ref (G b), .int (nI p)] none (mk7 σ b f0 (payF f1 p) f2 f3 f4 f5 f6) := by
  refine CS.of (cc := cX6_pays) (maxL := 3) (ret := none) (by decide) rfl (Nat.le_of_ble_eq_true rfl) ?_
  intro p_ e_ s_ m_ args_ below_ meth_ c_
  refine v_eq (pc' := 0) (st' := []) rfl rfl ?_
  refine v_loc [0, 1] [(0, .ref (G b)), (1, .int (nI p))] rfl ?_
  refine v_aload_n 0 dX6_pays_0 rfl rfl ?_
  refine u_getr (k := 1) (C := RX6) (T := TX6) (NF := 13) hM.n hM.s rfl rfl inX6_pays_X6 (by decide) (by decide +kernel) rfl dX6_pays_1 ?_
  refine v_iload_n 1 dX6_pays_4 rfl rfl ?_
  refine v_iconst (nI 2) dX6_pays_5 (by decide +kernel) ?_
  refine u_callSv [.int (nI p), .int (nI 2)] [.ref (G (b + 1))] 2 (c_X6_of lu Dg E N G shp (mk7 σ b f0 f1 f2 f3 f4 f5 f6) p 2) gX6_pays_X6_of rfl rfl rfl (by decide +kernel) rfl ⟨Nat.le_of_ble_eq_true rfl, Nat.le_of_ble_eq_true rfl⟩ ⟨Nat.le_of_ble_eq_true rfl, Nat.le_of_ble_eq_true rfl⟩ (Nat.le_of_ble_eq_true rfl) rfl dX6_pays_6 ?_
  refine m_ld1 (58 + 10 * p + 2) hM (rfl) (by omega) dX6_pays_9 ?_
  refine v_aload_n 0 dX6_pays_10 rfl rfl ?_
  refine u_getr (k := 1) (C := RX6) (T := TX6) (NF := 13) hM.n hM.s rfl rfl inX6_pays_X6 (by decide) (by decide +kernel) rfl dX6_pays_11 ?_
  refine v_bipush (nI 6) dX6_pays_14 (by decide +kernel) ?_
  refine m_ld1 6 hM (rfl) (by omega) dX6_pays_16 ?_
  refine v_isub dX6_pays_17 ?_
  refine v_istore_n [(2, .int ((f1 (58 + 10 * p + 2)) - (f1 6))), (0, .ref (G b)), (1, .int (nI p))] dX6_pays_18 rfl (by decide) rfl ?_
  refine v_aload_n 1 dX6_pays_19 rfl rfl ?_
  refine v_iload_n 2 dX6_pays_20 rfl rfl ?_
  refine u_callVv [.int (nI p)] [] 1 (c_X6_isStanding lu Dg E N G shp σ hM f0 f1 f2 f3 f4 f5 f6 p (by omega)) (ci := 6) (C := RX6) (T := TX6) (NF := 13) hM.n hM.s rfl gX6_pays_X6_isStanding rfl rfl rfl (by decide +kernel) rfl ⟨Nat.le_of_ble_eq_true rfl, Nat.le_of_ble_eq_true rfl⟩ ⟨Nat.le_of_ble_eq_true rfl, Nat.le_of_ble_eq_true rfl⟩ (Nat.le_of_ble_eq_true rfl) rfl dX6_pays_21 ?_
  refine v_if_eqB 94 dX6_pays_24 rfl (fun h24 => ?_) (fun h24 => ?_)
  · skip
    refine v_vret rfl dX6_pays_94 ⟨rfl, congrArg (φ shp) ?_⟩
    · rw [payF, ic_f (fun q9 => by first | exact h24 q9.1 | exact absurd q9.2.1 (Int32.not_le.mpr h28) | exact h35 q9.2.2)]
  · skip
    refine v_iload_n 0 dX6_pays_27 rfl rfl ?_
    refine v_if_lt 94 dX6_pays_28 rfl (fun h28 => ?_) (fun h28 => ?_)
    · skip
      refine v_vret rfl dX6_pays_94 ⟨rfl, congrArg (φ shp) ?_⟩
      · rw [payF, ic_f (fun q9 => by first | exact h24 q9.1 | exact absurd q9.2.1 (Int32.not_le.mpr h28) | exact h35 q9.2.2)]
    · skip
      refine v_iload_n 0 dX6_pays_31 rfl rfl ?_
      refine v_bipush (nI 10) dX6_pays_32 (by decide +kernel) ?_
      refine v_irem dX6_pays_34 (by decide +kernel) ?_
      refine v_if_ne 94 dX6_pays_35 rfl (fun h35 => ?_) (fun h35 => ?_)
      · skip
        refine v_vret rfl dX6_pays_94 ⟨rfl, congrArg (φ shp) ?_⟩
        · rw [payF, ic_f (fun q9 => by first | exact h24 q9.1 | exact absurd q9.2.1 (Int32.not_le.mpr h28) | exact h35 q9.2.2)]
      · skip
        refine v_aload_n 1 dX6_pays_38 rfl rfl ?_
        refine u_getr (k := 1) (C := RX6) (T := TX6) (NF := 13) hM.n hM.s rfl rfl inX6_pays_X6 (by decide) (by decide +kernel) rfl dX6_pays_39 ?_
        refine v_iload_n 2 dX6_pays_42 rfl rfl ?_
        refine v_iconst (nI 3) dX6_pays_43 (by decide +kernel) ?_
        refine u_callSv [.int (nI p), .int (nI 3)] [.ref (G (b + 1))] 2 (c_X6_of lu Dg E N G shp (mk7 σ b f0 f1 f2 f3 f4 f5 f6) p 3) gX6_pays_X6_of rfl rfl rfl (by decide +kernel) rfl ⟨Nat.le_of_ble_eq_true rfl, Nat.le_of_ble_eq_true rfl⟩ ⟨Nat.le_of_ble_eq_true rfl, Nat.le_of_ble_eq_true rfl⟩ (Nat.le_of_ble_eq_true rfl) rfl dX6_pays_44 ?_
        refine v_dup2 dX6_pays_47 rfl rfl ?_
        refine m_ld1 (58 + 10 * p + 3) hM (rfl) (by omega) dX6_pays_48 ?_
        refine v_aload_n 1 dX6_pays_49 rfl rfl ?_
        refine u_getr (k := 1) (C := RX6) (T := TX6) (NF := 13) hM.n hM.s rfl rfl inX6_pays_X6 (by decide) (by decide +kernel) rfl dX6_pays_50 ?_
        refine v_bipush (nI 7) dX6_pays_53 (by decide +kernel) ?_
        refine m_ld1 7 hM (rfl) (by omega) dX6_pays_55 ?_
        refine v_iadd dX6_pays_56 ?_
        refine m_st1 (58 + 10 * p + 3) hM (rfl) (by omega) dX6_pays_57 ?_
        generalize hg1 : upd f1 (58 + 10 * p + 3) ((f1 (58 + 10 * p + 3)) + (f1 7)) = g1
        refine v_aload_n 1 dX6_pays_58 rfl rfl ?_
        refine u_getr (k := 1) (C := RX6) (T := TX6) (NF := 13) hM.n hM.s rfl rfl inX6_pays_X6 (by decide) (by decide +kernel) rfl dX6_pays_59 ?_
        refine v_iload_n 2 dX6_pays_62 rfl rfl ?_
        refine v_iconst (nI 4) dX6_pays_63 (by decide +kernel) ?_
        refine u_callSv [.int (nI p), .int (nI 4)] [.ref (G (b + 1))] 2 (c_X6_of lu Dg E N G shp (mk7 σ b f0 g1 f2 f3 f4 f5 f6) p 4) gX6_pays_X6_of rfl rfl rfl (by decide +kernel) rfl ⟨Nat.le_of_ble_eq_true rfl, Nat.le_of_ble_eq_true rfl⟩ ⟨Nat.le_of_ble_eq_true rfl, Nat.le_of_ble_eq_true rfl⟩ (Nat.le_of_ble_eq_true rfl) rfl dX6_pays_64 ?_
        refine v_dup2 dX6_pays_67 rfl rfl ?_
        refine m_ld1 (58 + 10 * p + 4) hM (rfl) (by omega) dX6_pays_68 ?_
        refine v_aload_n 1 dX6_pays_69 rfl rfl ?_
        refine u_getr (k := 1) (C := RX6) (T := TX6) (NF := 13) hM.n hM.s rfl rfl inX6_pays_X6 (by decide) (by decide +kernel) rfl dX6_pays_70 ?_
        refine v_bipush (nI 7) dX6_pays_73 (by decide +kernel) ?_
        refine m_ld1 7 hM (rfl) (by omega) dX6_pays_75 ?_
        refine v_iadd dX6_pays_76 ?_
        refine m_st1 (58 + 10 * p + 4) hM (rfl) (by omega) dX6_pays_77 ?_
        generalize hg2 : upd g1 (58 + 10 * p + 4) ((g1 (58 + 10 * p + 4)) + (g1 7)) = g2
        refine v_aload_n 1 dX6_pays_78 rfl rfl ?_
        refine u_getr (k := 1) (C := RX6) (T := TX6) (NF := 13) hM.n hM.s rfl rfl inX6_pays_X6 (by decide) (by decide +kernel) rfl dX6_pays_79 ?_
        refine v_iconst (nI 5) dX6_pays_82 (by decide +kernel) ?_
        refine v_dup2 dX6_pays_83 rfl rfl ?_
        refine m_ld1 5 hM (rfl) (by omega) dX6_pays_84 ?_
        refine v_aload_n 1 dX6_pays_85 rfl rfl ?_
        refine u_getr (k := 1) (C := RX6) (T := TX6) (NF := 13) hM.n hM.s rfl rfl inX6_pays_X6 (by decide) (by decide +kernel) rfl dX6_pays_86 ?_
        refine v_bipush (nI 7) dX6_pays_89 (by decide +kernel) ?_
        refine m_ld1 7 hM (rfl) (by omega) dX6_pays_91 ?_
        refine v_iadd dX6_pays_92 ?_
        refine m_st1 5 hM (rfl) (by omega) dX6_pays_93 ?_
        generalize hg3 : upd g2 5 ((g2 5) + (g2 7)) = g3
        refine v_vret rfl dX6_pays_94 ⟨rfl, congrArg (φ shp) ?_⟩
        · subst hg1; subst hg2; subst hg3; rw [payF, ic_t ⟨h24, Int32.not_lt.mp h28, h35⟩]; rfl
