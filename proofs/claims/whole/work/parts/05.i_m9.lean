/-- how long one who stands will stand -/
def waitN (s : Nat → Int32) (p : Nat) : Nat := tn (s (10 + liN s p)) * (plc s p + 1) - tn (s (16 + liN s p))
def AllT (s : Nat → Int32) : Prop := ∀ p, p < tn (s 2) → s (58 + 10 * p + 5) = 0 → Turns s p (waitN s p)
noncomputable def turnsN (s : Nat → Int32) : Nat → Nat | 0 => 0 | n + 1 => turnsN s n + ic (s (58 + 10 * n + 5) = 0) (waitN s n) 0
def gainI (s : Nat → Int32) (p q : Nat) : Int32 := nI (waitN s p) - nI (waitN (exchS s p q) p) - nI (plc s p - plc s q) * s 8
set_option maxHeartbeats 4000000 in
set_option maxRecDepth 100000 in
/-- gained -/
theorem c_X6_gained (lu : Launch) (Dg : va_G) (E : Nat → ClassId) (N : Nat) (G : Nat → Nat) (shp : Nat → (Nat → Int32) → va_E) (σ : Nat → Nat → Int32) {b : Nat} (hM : ModS E G shp N b) (f0 f1 f2 f3 f4 f5 f6 : Nat → Int32) {T : Nat} (hI : Inv T f1) {pd p q : Nat} (hpd : f0 3 = nI pd) (hp1 : pd ≤ 1) (hp : p < tn (f1 2)) (hq : q < tn (f1 2)) (hm : MayX f1 p q) (h0 : Turns f1 p (waitN f1 p)) (h1 : Turns (exchS f1 p q) p (waitN (exchS f1 p q) p))  : CX lu yX6_gained wsX6_gained { frames := 5, cells := 0, slots := 0, locals := 109 } Dg E N G shp (mk7 σ b f0 f1 f2 f3 f4 f5 f6) [.ref (G b), .int (nI p), .int (nI q)] (fun v' τ => v' = some (.int (gainI f1 p q)) ∧ ∃ g2, (∀ i, i < 358 * pd → g2 i = f2 i) ∧ τ = mk7 σ b f0 f1 g2 f3 f4 f5 f6) := by
  refine CX.of (cc := cX6_gained) (maxL := 6) (ret := (some .int)) (by decide) rfl (Nat.le_of_ble_eq_true rfl) ?_
  intro p_ e_ s_ m_ args_ below_ meth_ c_
  refine v_eq (pc' := 0) (st' := []) rfl rfl ?_
  refine v_loc [0, 1, 2] [(0, .ref (G b)), (1, .int (nI p)), (2, .int (nI q))] rfl ?_
  have hu : upd (upd f0 3 (nI (pd + 1))) 3 (nI pd) = f0 := upd_self hpd
  have hp30 := Nat.lt_of_lt_of_le hp hI.np30
  refine v_aload_n 0 dX6_gained_0 rfl rfl ?_
  refine v_iload_n 1 dX6_gained_1 rfl rfl ?_
  refine u_callVx [.int (nI p)] [] 1 (c_X6_turnOf lu Dg E N G shp σ hM f0 f1 f2 f3 f4 f5 f6 (pd := pd) (w0 := waitN f1 p) (p := p) hpd (by omega) hp30 h0) (ci := 6) (C := RX6) (T := TX6) (NF := 13) hM.n hM.s rfl gX6_gained_X6_turnOf rfl rfl rfl (by decide +kernel) rfl ⟨Nat.le_of_ble_eq_true rfl, Nat.le_of_ble_eq_true rfl⟩ ⟨Nat.le_of_ble_eq_true rfl, Nat.le_of_ble_eq_true rfl⟩ (Nat.le_of_ble_eq_true rfl) rfl dX6_gained_2 (fun v9 τ9 hp9 => ?_)
  obtain ⟨rfl, u1, hu1, rfl⟩ := hp9
  refine v_st (st' := [.int (nI (waitN f1 p))]) rfl ?_
  refine v_istore_n [(3, .int (nI (waitN f1 p))), (0, .ref (G b)), (1, .int (nI p)), (2, .int (nI q))] dX6_gained_5 rfl (by decide) rfl ?_
  refine v_aload_n 1 dX6_gained_6 rfl rfl ?_
  refine u_callVn [] [] 0 (c_X6_push lu Dg E N G shp σ hM f0 f1 u1 f3 f4 f5 f6 (pd := pd) hpd (by omega)) (ci := 6) (C := RX6) (T := TX6) (NF := 13) hM.n hM.s rfl gX6_gained_X6_push rfl rfl rfl (by decide +kernel) rfl ⟨Nat.le_of_ble_eq_true rfl, Nat.le_of_ble_eq_true rfl⟩ ⟨Nat.le_of_ble_eq_true rfl, Nat.le_of_ble_eq_true rfl⟩ (Nat.le_of_ble_eq_true rfl) rfl dX6_gained_7 ?_
  refine v_aload_n 1 dX6_gained_10 rfl rfl ?_
  refine v_iload_n 2 dX6_gained_11 rfl rfl ?_
  refine v_iload_n 3 dX6_gained_12 rfl rfl ?_
  refine u_callVv [.int (nI p), .int (nI q)] [] 2 (c_X6_exchanges lu Dg E N G shp σ hM (upd f0 3 (nI (pd + 1))) f1 (cpF f1 u1 0 (358 * (pd)) 358) f3 f4 f5 f6 hI hp hq hm) (ci := 6) (C := RX6) (T := TX6) (NF := 13) hM.n hM.s rfl gX6_gained_X6_exchanges rfl rfl rfl (by decide +kernel) rfl ⟨Nat.le_of_ble_eq_true rfl, Nat.le_of_ble_eq_true rfl⟩ ⟨Nat.le_of_ble_eq_true rfl, Nat.le_of_ble_eq_true rfl⟩ (Nat.le_of_ble_eq_true rfl) rfl dX6_gained_13 ?_
  refine v_istore [(4, .int (nI (plc f1 p - plc f1 q) * f1 8)), (3, .int (nI (waitN f1 p))), (0, .ref (G b)), (1, .int (nI p)), (2, .int (nI q))] dX6_gained_16 (by decide) rfl ?_
  refine v_aload_n 2 dX6_gained_18 rfl rfl ?_
  refine v_iload_n 3 dX6_gained_19 rfl rfl ?_
  refine u_callVx [.int (nI p)] [] 1 (c_X6_turnOf lu Dg E N G shp σ hM (upd f0 3 (nI (pd + 1))) (exchS f1 p q) (cpF f1 u1 0 (358 * (pd)) 358) f3 f4 f5 f6 (pd := pd + 1) (w0 := waitN (exchS f1 p q) p) (p := p) (by rw [upd_ap, if_pos rfl]) (by omega) hp30 h1) (ci := 6) (C := RX6) (T := TX6) (NF := 13) hM.n hM.s rfl gX6_gained_X6_turnOf rfl rfl rfl (by decide +kernel) rfl ⟨Nat.le_of_ble_eq_true rfl, Nat.le_of_ble_eq_true rfl⟩ ⟨Nat.le_of_ble_eq_true rfl, Nat.le_of_ble_eq_true rfl⟩ (Nat.le_of_ble_eq_true rfl) rfl dX6_gained_20 (fun v9 τ9 hp9 => ?_)
  obtain ⟨rfl, u2, hu2, rfl⟩ := hp9
  refine v_st (st' := [.int (nI (waitN (exchS f1 p q) p))]) rfl ?_
  refine v_istore [(5, .int (nI (waitN (exchS f1 p q) p))), (4, .int (nI (plc f1 p - plc f1 q) * f1 8)), (3, .int (nI (waitN f1 p))), (0, .ref (G b)), (1, .int (nI p)), (2, .int (nI q))] dX6_gained_23 (by decide) rfl ?_
  refine v_aload_n 3 dX6_gained_25 rfl rfl ?_
  refine u_callVn [] [] 0 ((c_X6_pop lu Dg E N G shp σ hM (upd f0 3 (nI (pd + 1))) (exchS f1 p q) u2 f3 f4 f5 f6 (pd := pd) (by rw [upd_ap, if_pos rfl]) (by omega) f1 (fun i hi => by rw [hu2 _ (by omega), cpF_in _ _ (by omega) (by omega)]; congr 1; omega)).to rfl (congrArg (fun z9 => mk7 σ b z9 f1 u2 f3 f4 f5 f6) hu)) (ci := 6) (C := RX6) (T := TX6) (NF := 13) hM.n hM.s rfl gX6_gained_X6_pop rfl rfl rfl (by decide +kernel) rfl ⟨Nat.le_of_ble_eq_true rfl, Nat.le_of_ble_eq_true rfl⟩ ⟨Nat.le_of_ble_eq_true rfl, Nat.le_of_ble_eq_true rfl⟩ (Nat.le_of_ble_eq_true rfl) rfl dX6_gained_26 ?_
  refine v_iload_n 2 dX6_gained_29 rfl rfl ?_
  refine v_iload 0 dX6_gained_30 rfl ?_
  refine v_isub dX6_gained_32 ?_
  refine v_iload 1 dX6_gained_33 rfl ?_
  refine v_isub dX6_gained_35 ?_
  refine v_iret rfl dX6_gained_36 ⟨mk7 σ b f0 f1 u2 f3 f4 f5 f6, rfl, ⟨rfl, u2, fun i hi => by rw [hu2 i (by omega), cpF_out _ _ (Or.inl hi)]; exact hu1 i hi, rfl⟩⟩

set_option maxRecDepth 100000 in
theorem inX6_turns_X6 : ∀ w ∈ wsX60, w ∈ wsX6_turns := by decide +kernel
set_option maxHeartbeats 4000000 in
set_option maxRecDepth 100000 in
/-- turns -/
theorem c_X6_turns (lu : Launch) (Dg : va_G) (E : Nat → ClassId) (N : Nat) (G : Nat → Nat) (shp : Nat → (Nat → Int32) → va_E) (σ : Nat → Nat → Int32) {b : Nat} (hM : ModS E G shp N b) (f0 f1 f2 f3 f4 f5 f6 : Nat → Int32) {T : Nat} (hI : Inv T f1) {pd : Nat} (hpd : f0 3 = nI pd) (hp2 : pd ≤ 2) (hA : AllT f1)  : CX lu yX6_turns wsX6_turns { frames := 5, cells := 0, slots := 0, locals := 109 } Dg E N G shp (mk7 σ b f0 f1 f2 f3 f4 f5 f6) [.ref (G b)] (fun v' τ => v' = some (.int (nI (turnsN f1 (tn (f1 2))))) ∧ ∃ g2, (∀ i, i < 358 * pd → g2 i = f2 i) ∧ τ = mk7 σ b f0 f1 g2 f3 f4 f5 f6) := by
  refine CX.of (cc := cX6_turns) (maxL := 3) (ret := (some .int)) (by decide) rfl (Nat.le_of_ble_eq_true rfl) ?_
  intro p_ e_ s_ m_ args_ below_ meth_ c_
  refine v_eq (pc' := 0) (st' := []) rfl rfl ?_
  refine v_loc [0] [(0, .ref (G b))] rfl ?_
  refine v_iconst (nI 0) dX6_turns_0 (by decide +kernel) ?_
  refine v_istore_n [(1, .int (nI 0)), (0, .ref (G b))] dX6_turns_1 rfl (by decide) rfl ?_
  refine v_iconst (nI 0) dX6_turns_2 (by decide +kernel) ?_
  refine v_istore_n [(2, .int (nI 0)), (1, .int (nI 0)), (0, .ref (G b))] dX6_turns_3 rfl (by decide) rfl ?_
  refine v_loc [0, 1, 2] [(2, .int (nI 0)), (1, .int (nI 0)), (0, .ref (G b))] rfl ?_
  refine u_loop2 (fun n (k : Nat) (t : Nat → Int32) => k + n = tn (f1 2) ∧ ∀ i, i < 358 * pd → t i = f2 i) (fun (k : Nat) (t : Nat → Int32) => mk7 σ b f0 f1 t f3 f4 f5 f6) (fun (k : Nat) (t : Nat → Int32) => [(2, .int (nI k)), (1, .int (nI (turnsN f1 k))), (0, .ref (G b))]) (tn (f1 2)) 0 f2 (⟨by omega, fun i hi => rfl⟩) ?_
  intro n k t hL ih
  obtain ⟨hk, ht⟩ := hL
  refine v_iload_n 0 dX6_turns_4 rfl rfl ?_
  have hnp30 := hI.np30
  refine v_aload_n 2 dX6_turns_5 rfl rfl ?_
  refine u_getr (k := 1) (C := RX6) (T := TX6) (NF := 13) hM.n hM.s rfl rfl inX6_turns_X6 (by decide) (by decide +kernel) rfl dX6_turns_6 ?_
  refine v_iconst (nI 2) dX6_turns_9 (by decide +kernel) ?_
  refine m_ld1 2 hM (rfl) (by omega) dX6_turns_10 ?_
  refine v_topi (nI (tn (f1 2))) (hI.np) ?_
  refine v_icmp_geN 40 (by omega) (by omega) dX6_turns_11 rfl (fun h11 => ?_) (fun h11 => ?_)
  · skip
    refine v_iload_n 1 dX6_turns_40 rfl rfl ?_
    refine v_iret rfl dX6_turns_41 ⟨mk7 σ b f0 f1 t f3 f4 f5 f6, rfl, ⟨by obtain rfl : k = tn (f1 2) := (by omega); rfl, t, ht, rfl⟩⟩
  · skip
    refine v_iload_n 1 dX6_turns_14 rfl rfl ?_
    refine v_aload_n 2 dX6_turns_15 rfl rfl ?_
    refine v_iload_n 0 dX6_turns_16 rfl rfl ?_
    refine u_callVv [.int (nI k)] [.int (nI (turnsN f1 k))] 1 (c_X6_isStanding lu Dg E N G shp σ hM f0 f1 t f3 f4 f5 f6 k (by omega)) (ci := 6) (C := RX6) (T := TX6) (NF := 13) hM.n hM.s rfl gX6_turns_X6_isStanding rfl rfl rfl (by decide +kernel) rfl ⟨Nat.le_of_ble_eq_true rfl, Nat.le_of_ble_eq_true rfl⟩ ⟨Nat.le_of_ble_eq_true rfl, Nat.le_of_ble_eq_true rfl⟩ (Nat.le_of_ble_eq_true rfl) rfl dX6_turns_17 ?_
    refine v_if_eqB 31 dX6_turns_20 rfl (fun h20 => ?_) (fun h20 => ?_)
    · skip
      refine v_iconst (nI 0) dX6_turns_31 (by decide +kernel) ?_
      refine v_iaddN dX6_turns_32 ?_
      refine v_topi (nI (turnsN f1 (k + 1))) (congrArg nI (by rw [turnsN, ic_f h20])) ?_
      refine v_istore_n [(1, .int (nI (turnsN f1 (k + 1)))), (2, .int (nI k)), (0, .ref (G b))] dX6_turns_33 rfl (by decide) rfl ?_
      refine v_iincN 1 [(2, .int (nI (k + 1))), (1, .int (nI (turnsN f1 (k + 1)))), (0, .ref (G b))] dX6_turns_34 rfl (by decide) rfl ?_
      refine v_goto 4 dX6_turns_37 rfl ?_
      refine v_loc [0, 1, 2] [(2, .int (nI (k + 1))), (1, .int (nI (turnsN f1 (k + 1)))), (0, .ref (G b))] rfl ?_
      exact ih _ (k + 1) t (show n - 1 < n by omega) (⟨by omega, ht⟩)
    · skip
      refine v_aload_n 2 dX6_turns_23 rfl rfl ?_
      refine v_iload_n 0 dX6_turns_24 rfl rfl ?_
      refine u_callVx [.int (nI k)] [.int (nI (turnsN f1 k))] 1 (c_X6_turnOf lu Dg E N G shp σ hM f0 f1 t f3 f4 f5 f6 (pd := pd) (w0 := waitN f1 k) (p := k) hpd hp2 (by omega) (hA k (by omega) h20)) (ci := 6) (C := RX6) (T := TX6) (NF := 13) hM.n hM.s rfl gX6_turns_X6_turnOf rfl rfl rfl (by decide +kernel) rfl ⟨Nat.le_of_ble_eq_true rfl, Nat.le_of_ble_eq_true rfl⟩ ⟨Nat.le_of_ble_eq_true rfl, Nat.le_of_ble_eq_true rfl⟩ (Nat.le_of_ble_eq_true rfl) rfl dX6_turns_25 (fun v9 τ9 hp9 => ?_)
      obtain ⟨rfl, u1, hu1, rfl⟩ := hp9
      refine v_st (st' := [.int (nI (waitN f1 k)), .int (nI (turnsN f1 k))]) rfl ?_
      refine v_goto 32 dX6_turns_28 rfl ?_
      refine v_iadd dX6_turns_32 ?_
      refine v_topi (nI (turnsN f1 (k + 1))) ((by rw [turnsN, ic_t h20, nI_add])) ?_
      refine v_istore_n [(1, .int (nI (turnsN f1 (k + 1)))), (2, .int (nI k)), (0, .ref (G b))] dX6_turns_33 rfl (by decide) rfl ?_
      refine v_iincN 1 [(2, .int (nI (k + 1))), (1, .int (nI (turnsN f1 (k + 1)))), (0, .ref (G b))] dX6_turns_34 rfl (by decide) rfl ?_
      refine v_goto 4 dX6_turns_37 rfl ?_
      refine v_loc [0, 1, 2] [(2, .int (nI (k + 1))), (1, .int (nI (turnsN f1 (k + 1)))), (0, .ref (G b))] rfl ?_
      exact ih _ (k + 1) u1 (show n - 1 < n by omega) (⟨by omega, fun i hi => (hu1 i hi).trans (ht i hi)⟩)
