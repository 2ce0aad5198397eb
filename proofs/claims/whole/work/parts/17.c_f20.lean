/-- a call that throws an X, and leaves the world Φ' -/
def Thr2 (l : Launch) (y : MethodName) (ws : List Cond) (rm : Room) (D : va_G) (E : Nat → ClassId) (N : Nat) (G : Nat → Nat) (Φ Φ' : Nat → va_E) (vargs : List Value) (X : String) : Prop :=
  ∀ sz : Nat, vx_Met l y ws rm (PcX D E N G Φ vargs sz) (fun _ _ _ _ => False) (XcV D N G Φ' X sz) 1 6 (AG N G sz)
theorem Thr.two {l : Launch} {y : MethodName} {ws : List Cond} {rm : Room} {D : va_G} {E : Nat → ClassId} {N : Nat} {G : Nat → Nat} {Φ : Nat → va_E} {vargs : List Value} {X : String} (h : Thr l y ws rm D E N G Φ vargs X) : Thr2 l y ws rm D E N G Φ Φ vargs X := h
theorem Thr2.of {l : Launch} {y : MethodName} {ws ws' : List Cond} {rm : Room} {D : va_G} {E : Nat → ClassId} {N : Nat} {G : Nat → Nat} {Φ Φ' : Nat → va_E} {vargs : List Value} {X : String} {cc : ByteArray} {maxL : Nat} {ret : Option FieldType} (hy : plainName y.cls = true) (hw : ws = Cond.code y cc maxL ret :: ws') (hlen : (lg_sl vargs).length ≤ maxL)
    (body : ∀ (p : Program) (e : Env) (s : State) (m : MethodId) (args : Array Value) (below : List Frame) (meth : Method) (c : Code), StX (AG N G s.heap.size) s → (∀ x ∈ c.exceptionTable.toList, False) → V p l e rm s m args below meth c (QX below D N G Φ' X args s) D E (AG N G s.heap.size) cc maxL y.cls ret ws N G 0 0 Φ 0 (lv_args 0 vargs) []) : Thr2 l y ws rm D E N G Φ Φ' vargs X := by
  intro sz
  refine vx_ofW (cc := cc) (maxL := maxL) (ret := ret) hy hw ?_
  intro p e s m args below meth c s₁ B hml hex hv
  obtain ⟨⟨rfl, hsz, hP, hK, hD0, hZ⟩, hX⟩ := hv
  subst hsz
  have hts := atoms_spec (ws := ws) B.pre
  have hown : s.vm.findClass y.cls = some m.cls := findClass_of_methodNamed B.named
  have hl := lv_entry vargs (n := maxL) hlen
  rw [lg_entry_eq]
  exact body p e s m vargs.toArray below meth c hX hex ⟨⟨B.exec, B.bytes, hml, hown, hts⟩, hK, fun q h => Or.inr h, B.notSynchronized, B.returns, hZ⟩ s.heap [] _ hP (wl_D hD0 (fun n hn => Or.inl ⟨n, hn, rfl⟩)) va_S.rf hl
theorem prs_le (t : Nat → Int32) (lz : Nat) : (prs t lz).1 ≤ 600 := by
  by_cases hw : tkB t lz (nI 87) (nI 87) 0
  · by_cases hd : tkB t lz (nI 49) (nI 51) 1
    · obtain ⟨d1, d2, d3⟩ := dg_lines hd
      have h1 := pacR_le t lz 2 (dgN t 1)
      by_cases hp : (pacR t lz 2 (dgN t 1)).2
      · rw [prs_0 hw hd hp]
        have h2 := comR_le t lz (pacR t lz 2 (dgN t 1)).1 100
        omega
      · rw [prs_l hw hd hp]
        show (pacR t lz 2 (dgN t 1)).1 ≤ 600
        omega
    · rw [prs_d hw hd]; show 1 ≤ 600; omega
  · rw [prs_w hw]; show 0 ≤ 600; omega
set_option maxRecDepth 100000 in
theorem inX5_load_X5 : ∀ w ∈ wsX50, w ∈ wsX5_load := by decide +kernel
set_option maxHeartbeats 4000000 in
set_option maxRecDepth 100000 in
theorem c_X5_load_x (lu : Launch) (hl9 : lu.stackTraces = false) (Dg : va_G) (E : Nat → ClassId) (N : Nat) (G : Nat → Nat) (shp : Nat → (Nat → Int32) → va_E) (σ : Nat → Nat → Int32) (hS : StoodS E G shp N) (c : Nat → Int32)  {lz : Nat} (hl : σ 779 1 = nI lz) (h100 : lz ≤ 100) (hok : ¬ (prs (σ 780) lz).2) : Thr2 lu yX5_load wsX5_load { frames := 7, cells := 1, slots := 6, locals := 157 } Dg E N G (φ shp (hs σ 1 c)) (φ shp (hs (st2 σ 779 2 (nI (prs (σ 780) lz).1)) 1 c)) [.ref (G 0)] "java/lang/IllegalStateException" := by
  refine Thr2.of (cc := cX5_load) (maxL := 2) (ret := (some .int)) (by decide) rfl (Nat.le_of_ble_eq_true rfl) ?_
  intro p_ e_ s_ m_ args_ below_ meth_ c_ hX9 hex9
  refine v_eq (pc' := 0) (st' := []) rfl rfl ?_
  refine v_loc [0] [(0, .ref (G 0))] rfl ?_
  refine v_aload_n 0 dX5_load_0 rfl rfl ?_
  refine u_getr (k := 5) (C := RX5) (T := TX5) (NF := 6) hS.o.1 hS.o.2 rfl rfl inX5_load_X5 (by decide) (by decide +kernel) rfl dX5_load_1 ?_
  refine u_callVv [] [] 0 ((c_X0_firstError lu Dg E N G shp (hs σ 1 c) hS.d (lz := lz) (by rw [hs_out (by omega)]; exact hl) h100).to (congrArg (fun z => some (Value.int (ic (prs z lz).2 (-1) (nI (prs z lz).1)))) (hs_out (by omega) : hs σ 1 c (779 + 1) = σ 780)) (Eq.trans (congrArg (fun z => st2 (hs σ 1 c) 779 2 (nI (prs z lz).1)) (hs_out (by omega) : hs σ 1 c (779 + 1) = σ 780)) (st2_hs (by omega)))) (ci := 0) (C := RX0) (T := TX0) (NF := 3) hS.d.n hS.d.2.1 rfl gX5_load_X0_firstError rfl rfl rfl (by decide +kernel) rfl ⟨Nat.le_of_ble_eq_true rfl, Nat.le_of_ble_eq_true rfl⟩ ⟨Nat.le_of_ble_eq_true rfl, Nat.le_of_ble_eq_true rfl⟩ (Nat.le_of_ble_eq_true rfl) rfl dX5_load_4 ?_
  refine v_topi (nI (prs (σ 780) lz).1) (ic_f hok) ?_
  refine v_iconst ((-1)) dX5_load_7 (by decide +kernel) ?_
  refine v_icmp_eq 21 dX5_load_8 rfl (fun h8 => ?_) (fun h8 => ?_)
  · skip
    exact absurd h8 (nI_m1 (by have := prs_le (σ 780) lz; omega))
  · skip
    refine v_throwS (X := "java/lang/IllegalStateException") (names := ["java/lang/RuntimeException", "java/lang/Exception"]) hX9 hex9 hl9 rfl (by decide +kernel) (by decide +kernel) (by decide +kernel) (by decide +kernel) (strT_mem 74 (by decide +kernel)) (by decide +kernel) (by decide +kernel) (by decide +kernel) (by decide +kernel) dX5_load_11 dX5_load_14 dX5_load_15 dX5_load_17 dX5_load_20 (Nat.le_of_ble_eq_true rfl) (Nat.le_of_ble_eq_true rfl) (Nat.le_of_ble_eq_true rfl) (Nat.le_of_ble_eq_true rfl)

/-- what a load makes of the cells beside the hall -/
def ldG (σ : Nat → Nat → Int32) (x : Nat) : Nat → Nat → Int32 := st2 (st2 (st2 (st2 (st2 σ 779 2 (nI x)) 87 1 (nI 0)) 87 2 (nI 0)) 778 0 (nI 0)) 778 1 (nI 0)
theorem ldG_row (σ : Nat → Nat → Int32) (x : Nat) {n : Nat} (h1 : n ≠ 779) (h2 : n ≠ 87) (h3 : n ≠ 778) : ldG σ x n = σ n := by
  unfold ldG
  rw [st2_row _ h3, st2_row _ h3, st2_row _ h2, st2_row _ h2, st2_row _ h1]
set_option maxHeartbeats 4000000 in
set_option maxRecDepth 100000 in
/-- load: a day -/
theorem c_X5_load_0 (lu : Launch) (Dg : va_G) (E : Nat → ClassId) (N : Nat) (G : Nat → Nat) (shp : Nat → (Nat → Int32) → va_E) (σ : Nat → Nat → Int32) (hS : StoodS E G shp N) (c : Nat → Int32)  {lz : Nat} (hl : σ 779 1 = nI lz) (h100 : lz ≤ 100) (hok : (prs (σ 780) lz).2) (hI : Inv 0 (lnS (σ 780) (dgN (σ 780) 1)))  : CXX lu yX5_load wsX5_load { frames := 6, cells := 0, slots := 0, locals := 137 } Dg E N G shp (hs σ 1 c) [.ref (G 0)] (fun v τ => ∃ c', τ = hs (ldG σ (prs (σ 780) lz).1) 1 c' ∧ Rel c' (ldS (σ 780) lz).1 ∧ v = some (.int (nI (ldS (σ 780) lz).2))) := by
  refine CXX.of (cc := cX5_load) (maxL := 2) (ret := (some .int)) (by decide) rfl (Nat.le_of_ble_eq_true rfl) ?_
  intro p_ e_ s_ m_ args_ below_ meth_ c_ hX9
  refine v_eq (pc' := 0) (st' := []) rfl rfl ?_
  refine v_loc [0] [(0, .ref (G 0))] rfl ?_
  refine v_aload_n 0 dX5_load_0 rfl rfl ?_
  refine u_getr (k := 5) (C := RX5) (T := TX5) (NF := 6) hS.o.1 hS.o.2 rfl rfl inX5_load_X5 (by decide) (by decide +kernel) rfl dX5_load_1 ?_
  refine u_callVv [] [] 0 ((c_X0_firstError lu Dg E N G shp (hs σ 1 c) hS.d (lz := lz) (by rw [hs_out (by omega)]; exact hl) h100).to (congrArg (fun z => some (Value.int (ic (prs z lz).2 (-1) (nI (prs z lz).1)))) (hs_out (by omega) : hs σ 1 c (779 + 1) = σ 780)) (Eq.trans (congrArg (fun z => st2 (hs σ 1 c) 779 2 (nI (prs z lz).1)) (hs_out (by omega) : hs σ 1 c (779 + 1) = σ 780)) (st2_hs (by omega)))) (ci := 0) (C := RX0) (T := TX0) (NF := 3) hS.d.n hS.d.2.1 rfl gX5_load_X0_firstError rfl rfl rfl (by decide +kernel) rfl ⟨Nat.le_of_ble_eq_true rfl, Nat.le_of_ble_eq_true rfl⟩ ⟨Nat.le_of_ble_eq_true rfl, Nat.le_of_ble_eq_true rfl⟩ (Nat.le_of_ble_eq_true rfl) rfl dX5_load_4 ?_
  refine v_topi ((-1)) (ic_t hok) ?_
  refine v_iconst ((-1)) dX5_load_7 (by decide +kernel) ?_
  refine v_icmp_eq 21 dX5_load_8 rfl (fun h8 => ?_) (fun h8 => ?_)
  · skip
    refine v_aload_n 0 dX5_load_21 rfl rfl ?_
    refine u_getr (k := 0) (C := RX5) (T := TX5) (NF := 6) hS.o.1 hS.o.2 rfl rfl inX5_load_X5 (by decide) (by decide +kernel) rfl dX5_load_22 ?_
    refine u_callVXx hX9 [] [] 0 (c_X1_beginAnew lu Dg E N G shp (st2 σ 779 2 (nI (prs (σ 780) lz).1)) hS.h c) (ci := 1) (C := RX1) (T := TX1) (NF := 11) hS.h.n hS.h.s rfl gX5_load_X1_beginAnew rfl rfl rfl (by decide +kernel) rfl ⟨Nat.le_of_ble_eq_true rfl, Nat.le_of_ble_eq_true rfl⟩ ⟨Nat.le_of_ble_eq_true rfl, Nat.le_of_ble_eq_true rfl⟩ (Nat.le_of_ble_eq_true rfl) rfl dX5_load_25 (fun v9 τ9 hp9 => ?_)
    obtain ⟨rfl, rfl⟩ := hp9
    refine v_aload_n 0 dX5_load_28 rfl rfl ?_
    refine u_getr (k := 2) (C := RX5) (T := TX5) (NF := 6) hS.o.1 hS.o.2 rfl rfl inX5_load_X5 (by decide) (by decide +kernel) rfl dX5_load_29 ?_
    refine u_callVn [] [] 0 ((c_X2_forgetAll lu Dg E N G shp (hs (st2 σ 779 2 (nI (prs (σ 780) lz).1)) 1 (begC c)) hS.y).preS rfl (by rw [st2_hs (by omega), st2_hs (by omega)])) (ci := 2) (C := RX2) (T := TX2) (NF := 3) (Nat.lt_of_succ_lt hS.y.1) hS.y.2.1 rfl gX5_load_X2_forgetAll rfl rfl rfl (by decide +kernel) rfl ⟨Nat.le_of_ble_eq_true rfl, Nat.le_of_ble_eq_true rfl⟩ ⟨Nat.le_of_ble_eq_true rfl, Nat.le_of_ble_eq_true rfl⟩ (Nat.le_of_ble_eq_true rfl) rfl dX5_load_32 ?_
    refine v_iconst (nI 0) dX5_load_35 (by decide +kernel) ?_
    refine v_istore_n [(1, .int (nI 0)), (0, .ref (G 0))] dX5_load_36 rfl (by decide) rfl ?_
    refine v_iload_n 0 dX5_load_37 rfl rfl ?_
    refine v_aload_n 1 dX5_load_38 rfl rfl ?_
    refine u_getr (k := 4) (C := RX5) (T := TX5) (NF := 6) hS.o.1 hS.o.2 rfl rfl inX5_load_X5 (by decide) (by decide +kernel) rfl dX5_load_39 ?_
    refine u_alenI 1 hS.fi.1 hS.fi.2 rfl dX5_load_42 ?_
    refine v_icmp_geN 59 (by omega) (by omega) dX5_load_43 rfl (fun h43 => ?_) (fun h43 => ?_)
    · skip
      omega
    · skip
      refine v_aload_n 1 dX5_load_46 rfl rfl ?_
      refine u_getr (k := 4) (C := RX5) (T := TX5) (NF := 6) hS.o.1 hS.o.2 rfl rfl inX5_load_X5 (by decide) (by decide +kernel) rfl dX5_load_47 ?_
      refine v_iload_n 0 dX5_load_50 rfl rfl ?_
      refine v_iconst (nI 0) dX5_load_51 (by decide +kernel) ?_
      refine u_zast 0 hS.fi.1 hS.fi.2 rfl (by omega) (by decide) (by decide +kernel) dX5_load_52 ?_
      generalize hσ1 : st2 (hs (st2 (st2 (st2 σ 779 2 (nI (prs (σ 780) lz).1)) 87 1 (nI 0)) 87 2 (nI 0)) 1 (begC c)) 778 0 (nI 0) = σ1
      subst hσ1
      refine v_σ (hs (st2 (st2 (st2 (st2 σ 779 2 (nI (prs (σ 780) lz).1)) 87 1 (nI 0)) 87 2 (nI 0)) 778 0 (nI 0)) 1 (begC c)) (st2_hs (by omega)) ?_
      refine v_iincN 0 [(1, .int (nI 1)), (0, .ref (G 0))] dX5_load_53 rfl (by decide) rfl ?_
      refine v_goto 37 dX5_load_56 rfl ?_
      refine v_iload_n 0 dX5_load_37 rfl rfl ?_
      refine v_aload_n 1 dX5_load_38 rfl rfl ?_
      refine u_getr (k := 4) (C := RX5) (T := TX5) (NF := 6) hS.o.1 hS.o.2 rfl rfl inX5_load_X5 (by decide) (by decide +kernel) rfl dX5_load_39 ?_
      refine u_alenI 1 hS.fi.1 hS.fi.2 rfl dX5_load_42 ?_
      refine v_icmp_geN 59 (by omega) (by omega) dX5_load_43 rfl (fun h43 => ?_) (fun h43 => ?_)
      · skip
        omega
      · skip
        refine v_aload_n 1 dX5_load_46 rfl rfl ?_
        refine u_getr (k := 4) (C := RX5) (T := TX5) (NF := 6) hS.o.1 hS.o.2 rfl rfl inX5_load_X5 (by decide) (by decide +kernel) rfl dX5_load_47 ?_
        refine v_iload_n 0 dX5_load_50 rfl rfl ?_
        refine v_iconst (nI 0) dX5_load_51 (by decide +kernel) ?_
        refine u_zast 1 hS.fi.1 hS.fi.2 rfl (by omega) (by decide) (by decide +kernel) dX5_load_52 ?_
        generalize hσ2 : st2 (hs (st2 (st2 (st2 (st2 σ 779 2 (nI (prs (σ 780) lz).1)) 87 1 (nI 0)) 87 2 (nI 0)) 778 0 (nI 0)) 1 (begC c)) 778 1 (nI 0) = σ2
        subst hσ2
        refine v_σ (hs (st2 (st2 (st2 (st2 (st2 σ 779 2 (nI (prs (σ 780) lz).1)) 87 1 (nI 0)) 87 2 (nI 0)) 778 0 (nI 0)) 778 1 (nI 0)) 1 (begC c)) (st2_hs (by omega)) ?_
        refine v_iincN 0 [(1, .int (nI 2)), (0, .ref (G 0))] dX5_load_53 rfl (by decide) rfl ?_
        refine v_goto 37 dX5_load_56 rfl ?_
        refine v_iload_n 0 dX5_load_37 rfl rfl ?_
        refine v_aload_n 1 dX5_load_38 rfl rfl ?_
        refine u_getr (k := 4) (C := RX5) (T := TX5) (NF := 6) hS.o.1 hS.o.2 rfl rfl inX5_load_X5 (by decide) (by decide +kernel) rfl dX5_load_39 ?_
        refine u_alenI 1 hS.fi.1 hS.fi.2 rfl dX5_load_42 ?_
        refine v_icmp_geN 59 (by omega) (by omega) dX5_load_43 rfl (fun h43 => ?_) (fun h43 => ?_)
        · skip
          refine v_aload_n 1 dX5_load_59 rfl rfl ?_
          refine u_getr (k := 5) (C := RX5) (T := TX5) (NF := 6) hS.o.1 hS.o.2 rfl rfl inX5_load_X5 (by decide) (by decide +kernel) rfl dX5_load_60 ?_
          refine v_aload_n 1 dX5_load_63 rfl rfl ?_
          refine u_getr (k := 0) (C := RX5) (T := TX5) (NF := 6) hS.o.1 hS.o.2 rfl rfl inX5_load_X5 (by decide) (by decide +kernel) rfl dX5_load_64 ?_
          have e8 : ldG σ (prs (σ 780) lz).1 780 = σ 780 := ldG_row σ _ (by omega) (by omega) (by omega)
          refine u_callVx [.ref (G 1)] [] 1 (c_X0_happenIn lu Dg E N G shp (ldG σ (prs (σ 780) lz).1) hS (begC c) (lz := lz) (by show ldG σ _ 779 1 = _; unfold ldG; simp only [st2_eq]; rw [if_neg (by omega), if_neg (by omega), if_neg (by omega), if_neg (by omega), if_neg (by omega)]; exact hl) h100 (by rw [e8]; exact hok) (by rw [e8]; exact hI) (begC_rel c)) (ci := 0) (C := RX0) (T := TX0) (NF := 3) hS.d.n hS.d.2.1 rfl gX5_load_X0_happenIn rfl rfl rfl (by decide +kernel) rfl ⟨Nat.le_of_ble_eq_true rfl, Nat.le_of_ble_eq_true rfl⟩ ⟨Nat.le_of_ble_eq_true rfl, Nat.le_of_ble_eq_true rfl⟩ (Nat.le_of_ble_eq_true rfl) rfl dX5_load_67 (fun v9 τ9 hp9 => ?_)
          obtain ⟨c3, rfl, z1, rfl⟩ := hp9
          rw [e8] at z1
          refine v_st (st' := [.int (nI ((ldS (ldG σ (prs (σ 780) lz).1 780) lz).2))]) rfl ?_
          refine v_iret rfl dX5_load_70 ⟨hs (ldG σ (prs (σ 780) lz).1) 1 c3, rfl, ⟨c3, rfl, z1, by rw [e8]⟩⟩
        · skip
          omega
  · skip
    exact absurd rfl h8
