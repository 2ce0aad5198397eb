set_option maxRecDepth 100000 in
theorem inX6_push_X6 : ∀ w ∈ wsX60, w ∈ wsX6_push := by decide +kernel
set_option maxHeartbeats 4000000 in
set_option maxRecDepth 100000 in
/-- push -/
theorem c_X6_push (lu : Launch) (Dg : va_G) (E : Nat → ClassId) (N : Nat) (G : Nat → Nat) (shp : Nat → (Nat → Int32) → va_E) (σ : Nat → Nat → Int32) {b : Nat} (hM : ModS E G shp N b) (f0 f1 f2 f3 f4 f5 f6 : Nat → Int32) {pd : Nat} (hpd : f0 3 = nI pd) (hp2 : pd ≤ 2)  : CS lu yX6_push wsX6_push { frames := 0, cells := 0, slots := 0, locals := 0 } Dg E N G shp (mk7 σ b f0 f1 f2 f3 f4 f5 f6) [.ref (G b)] none (mk7 σ b (upd f0 3 (nI (pd + 1))) f1 (cpF f1 f2 0 (358 * pd) 358) f3 f4 f5 f6) := by
  refine CS.of (cc := cX6_push) (maxL := 2) (ret := none) (by decide) rfl (Nat.le_of_ble_eq_true rfl) ?_
  intro p_ e_ s_ m_ args_ below_ meth_ c_
  refine v_eq (pc' := 0) (st' := []) rfl rfl ?_
  refine v_loc [0] [(0, .ref (G b))] rfl ?_
  refine v_σ (mk7 σ b f0 f1 (cpF f1 f2 0 (358 * pd) 0) f3 f4 f5 f6) (congrArg (fun z9 => mk7 σ b f0 f1 z9 f3 f4 f5 f6) ((cpF_0 _ _ _ _).symm)) ?_
  refine v_iconst (nI 0) dX6_push_0 (by decide +kernel) ?_
  refine v_istore_n [(1, .int (nI 0)), (0, .ref (G b))] dX6_push_1 rfl (by decide) rfl ?_
  refine v_loc [0, 1] [(1, .int (nI 0)), (0, .ref (G b))] rfl ?_
  refine u_loop1 (fun n (k : Nat) => k + n = 358) (fun (k : Nat) => mk7 σ b f0 f1 (cpF f1 f2 0 (358 * pd) k) f3 f4 f5 f6) (fun (k : Nat) => [(1, .int (nI k)), (0, .ref (G b))]) (358) 0 (rfl) ?_
  intro n k hL ih
  refine v_iload_n 0 dX6_push_2 rfl rfl ?_
  refine v_sipush (nI 358) dX6_push_3 (by decide +kernel) ?_
  refine v_icmp_geN 36 (by omega) (by omega) dX6_push_6 rfl (fun h6 => ?_) (fun h6 => ?_)
  · skip
    obtain rfl : k = 358 := by omega
    refine v_aload_n 1 dX6_push_36 rfl rfl ?_
    refine v_dup dX6_push_37 rfl ?_
    refine m_geti (k := 3) hM rfl inX6_push_X6 (by decide) (by decide +kernel) rfl dX6_push_38 ?_
    refine v_topi (nI pd) (hpd) ?_
    refine v_iconst (nI 1) dX6_push_41 (by decide +kernel) ?_
    refine v_iaddN dX6_push_42 ?_
    refine m_puti (k := 3) (ty := .int) hM rfl inX6_push_X6 (by decide) (by decide +kernel) rfl rfl (by decide +kernel) ⟨rfl, rfl⟩ dX6_push_43 ?_
    generalize hg1 : upd f0 3 (nI (pd + 1)) = g1
    refine v_vret rfl dX6_push_46 ⟨rfl, congrArg (φ shp) ?_⟩
    · subst hg1; rfl
  · skip
    refine v_aload_n 1 dX6_push_9 rfl rfl ?_
    refine u_getr (k := 2) (C := RX6) (T := TX6) (NF := 13) hM.n hM.s rfl rfl inX6_push_X6 (by decide) (by decide +kernel) rfl dX6_push_10 ?_
    refine v_sipush (nI 358) dX6_push_13 (by decide +kernel) ?_
    refine v_aload_n 1 dX6_push_16 rfl rfl ?_
    refine m_geti (k := 3) hM rfl inX6_push_X6 (by decide) (by decide +kernel) rfl dX6_push_17 ?_
    refine v_topi (nI pd) (hpd) ?_
    refine v_imulN dX6_push_20 ?_
    refine v_iload_n 0 dX6_push_21 rfl rfl ?_
    refine v_iaddN dX6_push_22 ?_
    refine v_aload_n 1 dX6_push_23 rfl rfl ?_
    refine u_getr (k := 1) (C := RX6) (T := TX6) (NF := 13) hM.n hM.s rfl rfl inX6_push_X6 (by decide) (by decide +kernel) rfl dX6_push_24 ?_
    refine v_iload_n 0 dX6_push_27 rfl rfl ?_
    refine m_ld1 k hM (rfl) (by omega) dX6_push_28 ?_
    refine m_st2 (358 * pd + k) hM (rfl) (by omega) dX6_push_29 ?_
    generalize hg2 : upd (cpF f1 f2 0 (358 * pd) k) (358 * pd + k) (f1 k) = g2
    refine v_σ (mk7 σ b f0 f1 (cpF f1 f2 0 (358 * pd) (k + 1)) f3 f4 f5 f6) (congrArg (fun z9 => mk7 σ b f0 f1 z9 f3 f4 f5 f6) ((by rw [← cpF_s, Nat.zero_add]; subst hg2; rfl))) ?_
    refine v_iincN 0 [(1, .int (nI (k + 1))), (0, .ref (G b))] dX6_push_30 rfl (by decide) rfl ?_
    refine v_goto 2 dX6_push_33 rfl ?_
    refine v_loc [0, 1] [(1, .int (nI (k + 1))), (0, .ref (G b))] rfl ?_
    exact ih _ (k + 1) (show n - 1 < n by omega) (by omega)

set_option maxRecDepth 100000 in
theorem inX6_pop_X6 : ∀ w ∈ wsX60, w ∈ wsX6_pop := by decide +kernel
set_option maxHeartbeats 4000000 in
set_option maxRecDepth 100000 in
/-- pop -/
theorem c_X6_pop (lu : Launch) (Dg : va_G) (E : Nat → ClassId) (N : Nat) (G : Nat → Nat) (shp : Nat → (Nat → Int32) → va_E) (σ : Nat → Nat → Int32) {b : Nat} (hM : ModS E G shp N b) (f0 f1 f2 f3 f4 f5 f6 : Nat → Int32) {pd : Nat} (hpd : f0 3 = nI (pd + 1)) (hp2 : pd ≤ 2) (g : Nat → Int32) (hg : ∀ i, i < 358 → g i = f2 (358 * pd + (i - 0)))  : CS lu yX6_pop wsX6_pop { frames := 0, cells := 0, slots := 0, locals := 0 } Dg E N G shp (mk7 σ b f0 f1 f2 f3 f4 f5 f6) [.ref (G b)] none (mk7 σ b (upd f0 3 (nI pd)) g f2 f3 f4 f5 f6) := by
  refine CS.of (cc := cX6_pop) (maxL := 2) (ret := none) (by decide) rfl (Nat.le_of_ble_eq_true rfl) ?_
  intro p_ e_ s_ m_ args_ below_ meth_ c_
  refine v_eq (pc' := 0) (st' := []) rfl rfl ?_
  refine v_loc [0] [(0, .ref (G b))] rfl ?_
  refine v_aload_n 0 dX6_pop_0 rfl rfl ?_
  refine v_dup dX6_pop_1 rfl ?_
  refine m_geti (k := 3) hM rfl inX6_pop_X6 (by decide) (by decide +kernel) rfl dX6_pop_2 ?_
  refine v_topi (nI (pd + 1)) (hpd) ?_
  refine v_iconst (nI 1) dX6_pop_5 (by decide +kernel) ?_
  refine v_isubN (by omega) dX6_pop_6 ?_
  refine v_topi (nI pd) (congrArg nI (by omega)) ?_
  refine m_puti (k := 3) (ty := .int) hM rfl inX6_pop_X6 (by decide) (by decide +kernel) rfl rfl (by decide +kernel) ⟨rfl, rfl⟩ dX6_pop_7 ?_
  generalize hg1 : upd f0 3 (nI pd) = g1
  refine v_σ (mk7 σ b g1 (cpF f2 f1 (358 * pd) 0 0) f2 f3 f4 f5 f6) (congrArg (fun z9 => mk7 σ b g1 z9 f2 f3 f4 f5 f6) ((cpF_0 _ _ _ _).symm)) ?_
  refine v_iconst (nI 0) dX6_pop_10 (by decide +kernel) ?_
  refine v_istore_n [(1, .int (nI 0)), (0, .ref (G b))] dX6_pop_11 rfl (by decide) rfl ?_
  refine v_loc [0, 1] [(1, .int (nI 0)), (0, .ref (G b))] rfl ?_
  refine u_loop1 (fun n (k : Nat) => k + n = 358) (fun (k : Nat) => mk7 σ b g1 (cpF f2 f1 (358 * pd) 0 k) f2 f3 f4 f5 f6) (fun (k : Nat) => [(1, .int (nI k)), (0, .ref (G b))]) (358) 0 (rfl) ?_
  intro n k hL ih
  refine v_iload_n 0 dX6_pop_12 rfl rfl ?_
  refine v_sipush (nI 358) dX6_pop_13 (by decide +kernel) ?_
  refine v_icmp_geN 46 (by omega) (by omega) dX6_pop_16 rfl (fun h16 => ?_) (fun h16 => ?_)
  · skip
    obtain rfl : k = 358 := by omega
    refine m_junk1 g hM (fun i hi => by rw [cpF_in _ _ (Nat.zero_le i) (by omega)]; exact hg i hi) ?_
    refine v_vret rfl dX6_pop_46 ⟨rfl, congrArg (φ shp) ?_⟩
    · subst hg1; rfl
  · skip
    refine v_aload_n 1 dX6_pop_19 rfl rfl ?_
    refine u_getr (k := 1) (C := RX6) (T := TX6) (NF := 13) hM.n hM.s rfl rfl inX6_pop_X6 (by decide) (by decide +kernel) rfl dX6_pop_20 ?_
    refine v_iload_n 0 dX6_pop_23 rfl rfl ?_
    refine v_aload_n 1 dX6_pop_24 rfl rfl ?_
    refine u_getr (k := 2) (C := RX6) (T := TX6) (NF := 13) hM.n hM.s rfl rfl inX6_pop_X6 (by decide) (by decide +kernel) rfl dX6_pop_25 ?_
    refine v_sipush (nI 358) dX6_pop_28 (by decide +kernel) ?_
    refine v_aload_n 1 dX6_pop_31 rfl rfl ?_
    refine m_geti (k := 3) hM rfl inX6_pop_X6 (by decide) (by decide +kernel) rfl dX6_pop_32 ?_
    refine v_topi (nI pd) ((by rw [← hg1, upd_ap, if_pos rfl])) ?_
    refine v_imulN dX6_pop_35 ?_
    refine v_iload_n 0 dX6_pop_36 rfl rfl ?_
    refine v_iaddN dX6_pop_37 ?_
    refine m_ld2 (358 * pd + k) hM (rfl) (by omega) dX6_pop_38 ?_
    refine m_st1 k hM (rfl) (by omega) dX6_pop_39 ?_
    generalize hg2 : upd (cpF f2 f1 (358 * pd) 0 k) k (f2 (358 * pd + k)) = g2
    refine v_σ (mk7 σ b g1 (cpF f2 f1 (358 * pd) 0 (k + 1)) f2 f3 f4 f5 f6) (congrArg (fun z9 => mk7 σ b g1 z9 f2 f3 f4 f5 f6) ((by rw [← cpF_s, Nat.zero_add]; subst hg2; rfl))) ?_
    refine v_iincN 0 [(1, .int (nI (k + 1))), (0, .ref (G b))] dX6_pop_40 rfl (by decide) rfl ?_
    refine v_goto 12 dX6_pop_43 rfl ?_
    refine v_loc [0, 1] [(1, .int (nI (k + 1))), (0, .ref (G b))] rfl ?_
    exact ih _ (k + 1) (show n - 1 < n by omega) (by omega)

noncomputable def standN (s : Nat → Int32) (x : Int32) : Nat → Nat | 0 => 0 | n + 1 => standN s x n + ic (s (58 + 10 * n + 5) = x) 1 0
def accN (s : Nat → Int32) : Nat → Int32 | 0 => nI 0 | n + 1 => accN s n + s (58 + 10 * n + 3)
def stoodN (s : Nat → Int32) (l : Nat) : Nat → Int32 | 0 => nI 0 | n + 1 => stoodN s l n + s (58 + 10 * tn (s (22 + 12 * l + n)) + 2)
theorem upd_self {f : Nat → Int32} {k : Nat} {x v : Int32} (h : f k = v) : upd (upd f k x) k v = f := by
  funext i; simp only [upd_ap]
  by_cases e : i = k
  · subst e; rw [if_pos rfl, h]
  · rw [if_neg e, if_neg e]
set_option maxRecDepth 100000 in
theorem inX6_standing_X6 : ∀ w ∈ wsX60, w ∈ wsX6_standing := by decide +kernel
set_option maxHeartbeats 4000000 in
set_option maxRecDepth 100000 in
/-- standing -/
theorem c_X6_standing (lu : Launch) (Dg : va_G) (E : Nat → ClassId) (N : Nat) (G : Nat → Nat) (shp : Nat → (Nat → Int32) → va_E) (σ : Nat → Nat → Int32) {b : Nat} (hM : ModS E G shp N b) (f0 f1 f2 f3 f4 f5 f6 : Nat → Int32) {T : Nat} (hI : Inv T f1) (x : Int32)  : CS lu yX6_standing wsX6_standing { frames := 1, cells := 0, slots := 0, locals := 21 } Dg E N G shp (mk7 σ b f0 f1 f2 f3 f4 f5 f6) [.ref (G b), .int x] (some (.int (nI (standN f1 x (tn (f1 2)))))) (mk7 σ b f0 f1 f2 f3 f4 f5 f6) := by
  refine CS.of (cc := cX6_standing) (maxL := 4) (ret := (some .int)) (by decide) rfl (Nat.le_of_ble_eq_true rfl) ?_
  intro p_ e_ s_ m_ args_ below_ meth_ c_
  refine v_eq (pc' := 0) (st' := []) rfl rfl ?_
  refine v_loc [0, 1] [(0, .ref (G b)), (1, .int x)] rfl ?_
  refine v_iconst (nI 0) dX6_standing_0 (by decide +kernel) ?_
  refine v_istore_n [(2, .int (nI 0)), (0, .ref (G b)), (1, .int x)] dX6_standing_1 rfl (by decide) rfl ?_
  refine v_iconst (nI 0) dX6_standing_2 (by decide +kernel) ?_
  refine v_istore_n [(3, .int (nI 0)), (2, .int (nI 0)), (0, .ref (G b)), (1, .int x)] dX6_standing_3 rfl (by decide) rfl ?_
  refine v_loc [0, 1, 3, 2] [(3, .int (nI 0)), (2, .int (nI 0)), (1, .int x), (0, .ref (G b))] rfl ?_
  refine u_loop1 (fun n (k : Nat) => k + n = tn (f1 2)) (fun (k : Nat) => mk7 σ b f0 f1 f2 f3 f4 f5 f6) (fun (k : Nat) => [(3, .int (nI k)), (2, .int (nI (standN f1 x k))), (1, .int x), (0, .ref (G b))]) (tn (f1 2)) 0 ((by omega)) ?_
  intro n k hL ih
  refine v_iload_n 0 dX6_standing_4 rfl rfl ?_
  have hnp30 := hI.np30
  refine v_aload_n 3 dX6_standing_5 rfl rfl ?_
  refine u_getr (k := 1) (C := RX6) (T := TX6) (NF := 13) hM.n hM.s rfl rfl inX6_standing_X6 (by decide) (by decide +kernel) rfl dX6_standing_6 ?_
  refine v_iconst (nI 2) dX6_standing_9 (by decide +kernel) ?_
  refine m_ld1 2 hM (rfl) (by omega) dX6_standing_10 ?_
  refine v_topi (nI (tn (f1 2))) (hI.np) ?_
  refine v_icmp_geN 42 (by omega) (by omega) dX6_standing_11 rfl (fun h11 => ?_) (fun h11 => ?_)
  · skip
    refine v_iload_n 1 dX6_standing_42 rfl rfl ?_
    refine v_iret rfl dX6_standing_43 ⟨congrArg (fun z => some (Value.int z)) ?_, congrArg (φ shp) ?_⟩
    · obtain rfl : k = tn (f1 2) := (by omega); rfl
    · rfl
  · skip
    refine v_iload_n 1 dX6_standing_14 rfl rfl ?_
    refine v_aload_n 3 dX6_standing_15 rfl rfl ?_
    refine u_getr (k := 1) (C := RX6) (T := TX6) (NF := 13) hM.n hM.s rfl rfl inX6_standing_X6 (by decide) (by decide +kernel) rfl dX6_standing_16 ?_
    refine v_iload_n 0 dX6_standing_19 rfl rfl ?_
    refine v_iconst (nI 5) dX6_standing_20 (by decide +kernel) ?_
    refine u_callSv [.int (nI k), .int (nI 5)] [.ref (G (b + 1)), .int (nI (standN f1 x k))] 2 (c_X6_of lu Dg E N G shp (mk7 σ b f0 f1 f2 f3 f4 f5 f6) k 5) gX6_standing_X6_of rfl rfl rfl (by decide +kernel) rfl ⟨Nat.le_of_ble_eq_true rfl, Nat.le_of_ble_eq_true rfl⟩ ⟨Nat.le_of_ble_eq_true rfl, Nat.le_of_ble_eq_true rfl⟩ (Nat.le_of_ble_eq_true rfl) rfl dX6_standing_21 ?_
    refine m_ld1 (58 + 10 * k + 5) hM (rfl) (by omega) dX6_standing_24 ?_
    refine v_iload_n 2 dX6_standing_25 rfl rfl ?_
    refine v_icmp_ne 33 dX6_standing_26 rfl (fun h26 => ?_) (fun h26 => ?_)
    · skip
      refine v_iconst (nI 0) dX6_standing_33 (by decide +kernel) ?_
      refine v_iaddN dX6_standing_34 ?_
      refine v_topi (nI (standN f1 x (k + 1))) (congrArg nI (by rw [standN, ic_f h26])) ?_
      refine v_istore_n [(2, .int (nI (standN f1 x (k + 1)))), (3, .int (nI k)), (1, .int x), (0, .ref (G b))] dX6_standing_35 rfl (by decide) rfl ?_
      refine v_iincN 1 [(3, .int (nI (k + 1))), (2, .int (nI (standN f1 x (k + 1)))), (1, .int x), (0, .ref (G b))] dX6_standing_36 rfl (by decide) rfl ?_
      refine v_goto 4 dX6_standing_39 rfl ?_
      refine v_loc [0, 1, 2, 3] [(3, .int (nI (k + 1))), (2, .int (nI (standN f1 x (k + 1)))), (1, .int x), (0, .ref (G b))] rfl ?_
      exact ih _ (k + 1) (show n - 1 < n by omega) (by omega)
    · skip
      refine v_iconst (nI 1) dX6_standing_29 (by decide +kernel) ?_
      refine v_goto 34 dX6_standing_30 rfl ?_
      refine v_iaddN dX6_standing_34 ?_
      refine v_topi (nI (standN f1 x (k + 1))) (congrArg nI (by rw [standN, ic_t h26])) ?_
      refine v_istore_n [(2, .int (nI (standN f1 x (k + 1)))), (3, .int (nI k)), (1, .int x), (0, .ref (G b))] dX6_standing_35 rfl (by decide) rfl ?_
      refine v_iincN 1 [(3, .int (nI (k + 1))), (2, .int (nI (standN f1 x (k + 1)))), (1, .int x), (0, .ref (G b))] dX6_standing_36 rfl (by decide) rfl ?_
      refine v_goto 4 dX6_standing_39 rfl ?_
      refine v_loc [0, 1, 2, 3] [(3, .int (nI (k + 1))), (2, .int (nI (standN f1 x (k + 1)))), (1, .int x), (0, .ref (G b))] rfl ?_
      exact ih _ (k + 1) (show n - 1 < n by omega) (by omega)

set_option maxRecDepth 100000 in
theorem inX6_accounts_X6 : ∀ w ∈ wsX60, w ∈ wsX6_accounts := by decide +kernel
set_option maxHeartbeats 4000000 in
set_option maxRecDepth 100000 in
/-- accounts -/
theorem c_X6_accounts (lu : Launch) (Dg : va_G) (E : Nat → ClassId) (N : Nat) (G : Nat → Nat) (shp : Nat → (Nat → Int32) → va_E) (σ : Nat → Nat → Int32) {b : Nat} (hM : ModS E G shp N b) (f0 f1 f2 f3 f4 f5 f6 : Nat → Int32) {T : Nat} (hI : Inv T f1)  : CS lu yX6_accounts wsX6_accounts { frames := 1, cells := 0, slots := 0, locals := 21 } Dg E N G shp (mk7 σ b f0 f1 f2 f3 f4 f5 f6) [.ref (G b)] (some (.int (accN f1 (tn (f1 2))))) (mk7 σ b f0 f1 f2 f3 f4 f5 f6) := by
  refine CS.of (cc := cX6_accounts) (maxL := 3) (ret := (some .int)) (by decide) rfl (Nat.le_of_ble_eq_true rfl) ?_
  intro p_ e_ s_ m_ args_ below_ meth_ c_
  refine v_eq (pc' := 0) (st' := []) rfl rfl ?_
  refine v_loc [0] [(0, .ref (G b))] rfl ?_
  refine v_iconst (nI 0) dX6_accounts_0 (by decide +kernel) ?_
  refine v_istore_n [(1, .int (nI 0)), (0, .ref (G b))] dX6_accounts_1 rfl (by decide) rfl ?_
  refine v_iconst (nI 0) dX6_accounts_2 (by decide +kernel) ?_
  refine v_istore_n [(2, .int (nI 0)), (1, .int (accN f1 0)), (0, .ref (G b))] dX6_accounts_3 rfl (by decide) rfl ?_
  refine v_loc [0, 1, 2] [(2, .int (nI 0)), (1, .int (accN f1 0)), (0, .ref (G b))] rfl ?_
  refine u_loop1 (fun n (k : Nat) => k + n = tn (f1 2)) (fun (k : Nat) => mk7 σ b f0 f1 f2 f3 f4 f5 f6) (fun (k : Nat) => [(2, .int (nI k)), (1, .int (accN f1 k)), (0, .ref (G b))]) (tn (f1 2)) 0 ((by omega)) ?_
  intro n k hL ih
  refine v_iload_n 0 dX6_accounts_4 rfl rfl ?_
  have hnp30 := hI.np30
  refine v_aload_n 2 dX6_accounts_5 rfl rfl ?_
  refine u_getr (k := 1) (C := RX6) (T := TX6) (NF := 13) hM.n hM.s rfl rfl inX6_accounts_X6 (by decide) (by decide +kernel) rfl dX6_accounts_6 ?_
  refine v_iconst (nI 2) dX6_accounts_9 (by decide +kernel) ?_
  refine m_ld1 2 hM (rfl) (by omega) dX6_accounts_10 ?_
  refine v_topi (nI (tn (f1 2))) (hI.np) ?_
  refine v_icmp_geN 33 (by omega) (by omega) dX6_accounts_11 rfl (fun h11 => ?_) (fun h11 => ?_)
  · skip
    refine v_iload_n 1 dX6_accounts_33 rfl rfl ?_
    refine v_iret rfl dX6_accounts_34 ⟨congrArg (fun z => some (Value.int z)) ?_, congrArg (φ shp) ?_⟩
    · obtain rfl : k = tn (f1 2) := (by omega); rfl
    · rfl
  · skip
    refine v_iload_n 1 dX6_accounts_14 rfl rfl ?_
    refine v_aload_n 2 dX6_accounts_15 rfl rfl ?_
    refine u_getr (k := 1) (C := RX6) (T := TX6) (NF := 13) hM.n hM.s rfl rfl inX6_accounts_X6 (by decide) (by decide +kernel) rfl dX6_accounts_16 ?_
    refine v_iload_n 0 dX6_accounts_19 rfl rfl ?_
    refine v_iconst (nI 3) dX6_accounts_20 (by decide +kernel) ?_
    refine u_callSv [.int (nI k), .int (nI 3)] [.ref (G (b + 1)), .int (accN f1 k)] 2 (c_X6_of lu Dg E N G shp (mk7 σ b f0 f1 f2 f3 f4 f5 f6) k 3) gX6_accounts_X6_of rfl rfl rfl (by decide +kernel) rfl ⟨Nat.le_of_ble_eq_true rfl, Nat.le_of_ble_eq_true rfl⟩ ⟨Nat.le_of_ble_eq_true rfl, Nat.le_of_ble_eq_true rfl⟩ (Nat.le_of_ble_eq_true rfl) rfl dX6_accounts_21 ?_
    refine m_ld1 (58 + 10 * k + 3) hM (rfl) (by omega) dX6_accounts_24 ?_
    refine v_iadd dX6_accounts_25 ?_
    refine v_topi (accN f1 (k + 1)) (rfl) ?_
    refine v_istore_n [(1, .int (accN f1 (k + 1))), (2, .int (nI k)), (0, .ref (G b))] dX6_accounts_26 rfl (by decide) rfl ?_
    refine v_iincN 1 [(2, .int (nI (k + 1))), (1, .int (accN f1 (k + 1))), (0, .ref (G b))] dX6_accounts_27 rfl (by decide) rfl ?_
    refine v_goto 4 dX6_accounts_30 rfl ?_
    refine v_loc [0, 1, 2] [(2, .int (nI (k + 1))), (1, .int (accN f1 (k + 1))), (0, .ref (G b))] rfl ?_
    exact ih _ (k + 1) (show n - 1 < n by omega) (by omega)

set_option maxRecDepth 100000 in
theorem inX6_stoodIn_X6 : ∀ w ∈ wsX60, w ∈ wsX6_stoodIn := by decide +kernel
set_option maxHeartbeats 4000000 in
set_option maxRecDepth 100000 in
/-- stoodIn -/
theorem c_X6_stoodIn (lu : Launch) (Dg : va_G) (E : Nat → ClassId) (N : Nat) (G : Nat → Nat) (shp : Nat → (Nat → Int32) → va_E) (σ : Nat → Nat → Int32) {b : Nat} (hM : ModS E G shp N b) (f0 f1 f2 f3 f4 f5 f6 : Nat → Int32) {T : Nat} (hI : Inv T f1) {l : Nat} (hl : l < tn (f1 1))  : CS lu yX6_stoodIn wsX6_stoodIn { frames := 1, cells := 0, slots := 0, locals := 21 } Dg E N G shp (mk7 σ b f0 f1 f2 f3 f4 f5 f6) [.ref (G b), .int (nI l)] (some (.int (stoodN f1 l (tn (f1 (13 + l)))))) (mk7 σ b f0 f1 f2 f3 f4 f5 f6) := by
  refine CS.of (cc := cX6_stoodIn) (maxL := 4) (ret := (some .int)) (by decide) rfl (Nat.le_of_ble_eq_true rfl) ?_
  intro p_ e_ s_ m_ args_ below_ meth_ c_
  refine v_eq (pc' := 0) (st' := []) rfl rfl ?_
  refine v_loc [0, 1] [(0, .ref (G b)), (1, .int (nI l))] rfl ?_
  refine v_iconst (nI 0) dX6_stoodIn_0 (by decide +kernel) ?_
  refine v_istore_n [(2, .int (nI 0)), (0, .ref (G b)), (1, .int (nI l))] dX6_stoodIn_1 rfl (by decide) rfl ?_
  refine v_iconst (nI 0) dX6_stoodIn_2 (by decide +kernel) ?_
  refine v_istore_n [(3, .int (nI 0)), (2, .int (stoodN f1 l 0)), (0, .ref (G b)), (1, .int (nI l))] dX6_stoodIn_3 rfl (by decide) rfl ?_
  refine v_loc [0, 1, 3, 2] [(3, .int (nI 0)), (2, .int (stoodN f1 l 0)), (1, .int (nI l)), (0, .ref (G b))] rfl ?_
  refine u_loop1 (fun n (k : Nat) => k + n = tn (f1 (13 + l))) (fun (k : Nat) => mk7 σ b f0 f1 f2 f3 f4 f5 f6) (fun (k : Nat) => [(3, .int (nI k)), (2, .int (stoodN f1 l k)), (1, .int (nI l)), (0, .ref (G b))]) (tn (f1 (13 + l))) 0 ((by omega)) ?_
  intro n k hL ih
  refine v_iload_n 0 dX6_stoodIn_4 rfl rfl ?_
  have h12 := hI.len12 hl
  have hl3 := Nat.lt_of_lt_of_le hl hI.nl3
  refine v_aload_n 3 dX6_stoodIn_5 rfl rfl ?_
  refine u_getr (k := 1) (C := RX6) (T := TX6) (NF := 13) hM.n hM.s rfl rfl inX6_stoodIn_X6 (by decide) (by decide +kernel) rfl dX6_stoodIn_6 ?_
  refine v_bipush (nI 13) dX6_stoodIn_9 (by decide +kernel) ?_
  refine v_iload_n 2 dX6_stoodIn_11 rfl rfl ?_
  refine v_iaddN dX6_stoodIn_12 ?_
  refine m_ld1 (13 + l) hM (rfl) (by omega) dX6_stoodIn_13 ?_
  refine v_topi (nI (tn (f1 (13 + l)))) (hI.len hl) ?_
  refine v_icmp_geN 49 (by omega) (by omega) dX6_stoodIn_14 rfl (fun h14 => ?_) (fun h14 => ?_)
  · skip
    refine v_iload_n 1 dX6_stoodIn_49 rfl rfl ?_
    refine v_iret rfl dX6_stoodIn_50 ⟨congrArg (fun z => some (Value.int z)) ?_, congrArg (φ shp) ?_⟩
    · obtain rfl : k = tn (f1 (13 + l)) := (by omega); rfl
    · rfl
  · skip
    have hr := hI.row hl h14
    have hr2 := Nat.lt_of_lt_of_le (hI.rowP hl h14) hI.np30
    refine v_iload_n 1 dX6_stoodIn_17 rfl rfl ?_
    refine v_aload_n 3 dX6_stoodIn_18 rfl rfl ?_
    refine u_getr (k := 1) (C := RX6) (T := TX6) (NF := 13) hM.n hM.s rfl rfl inX6_stoodIn_X6 (by decide) (by decide +kernel) rfl dX6_stoodIn_19 ?_
    refine v_aload_n 3 dX6_stoodIn_22 rfl rfl ?_
    refine u_getr (k := 1) (C := RX6) (T := TX6) (NF := 13) hM.n hM.s rfl rfl inX6_stoodIn_X6 (by decide) (by decide +kernel) rfl dX6_stoodIn_23 ?_
    refine v_bipush (nI 22) dX6_stoodIn_26 (by decide +kernel) ?_
    refine v_bipush (nI 12) dX6_stoodIn_28 (by decide +kernel) ?_
    refine v_iload_n 2 dX6_stoodIn_30 rfl rfl ?_
    refine v_imulN dX6_stoodIn_31 ?_
    refine v_iaddN dX6_stoodIn_32 ?_
    refine v_iload_n 0 dX6_stoodIn_33 rfl rfl ?_
    refine v_iaddN dX6_stoodIn_34 ?_
    refine m_ld1 (22 + (12 * l) + k) hM (rfl) (by omega) dX6_stoodIn_35 ?_
    refine v_topi (nI (tn (f1 (22 + 12 * l + k)))) (hr) ?_
    refine v_iconst (nI 2) dX6_stoodIn_36 (by decide +kernel) ?_
    refine u_callSv [.int (nI (tn (f1 (22 + 12 * l + k)))), .int (nI 2)] [.ref (G (b + 1)), .int (stoodN f1 l k)] 2 (c_X6_of lu Dg E N G shp (mk7 σ b f0 f1 f2 f3 f4 f5 f6) (tn (f1 (22 + 12 * l + k))) 2) gX6_stoodIn_X6_of rfl rfl rfl (by decide +kernel) rfl ⟨Nat.le_of_ble_eq_true rfl, Nat.le_of_ble_eq_true rfl⟩ ⟨Nat.le_of_ble_eq_true rfl, Nat.le_of_ble_eq_true rfl⟩ (Nat.le_of_ble_eq_true rfl) rfl dX6_stoodIn_37 ?_
    refine m_ld1 (58 + 10 * (tn (f1 (22 + 12 * l + k))) + 2) hM (rfl) (by omega) dX6_stoodIn_40 ?_
    refine v_iadd dX6_stoodIn_41 ?_
    refine v_topi (stoodN f1 l (k + 1)) (rfl) ?_
    refine v_istore_n [(2, .int (stoodN f1 l (k + 1))), (3, .int (nI k)), (1, .int (nI l)), (0, .ref (G b))] dX6_stoodIn_42 rfl (by decide) rfl ?_
    refine v_iincN 1 [(3, .int (nI (k + 1))), (2, .int (stoodN f1 l (k + 1))), (1, .int (nI l)), (0, .ref (G b))] dX6_stoodIn_43 rfl (by decide) rfl ?_
    refine v_goto 4 dX6_stoodIn_46 rfl ?_
    refine v_loc [0, 1, 2, 3] [(3, .int (nI (k + 1))), (2, .int (stoodN f1 l (k + 1))), (1, .int (nI l)), (0, .ref (G b))] rfl ?_
    exact ih _ (k + 1) (show n - 1 < n by omega) (by omega)
