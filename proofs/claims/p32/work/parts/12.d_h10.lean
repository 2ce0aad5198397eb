theorem con_ofF {l : Launch} {y : MethodName} {ws ws' : List Cond} {rm : Room} {D : va_G} {E : Nat → ClassId} {N : Nat} {G : Nat → Nat} {Φ : Nat → va_E} {vargs : List Value} {post : Option Value → (Nat → va_E) → Prop} {cc : ByteArray} {maxL : Nat} {ret : Option FieldType} (hy : plainFor y = true) (hw : ws = Cond.code y cc maxL ret :: ws') (hlen : (lg_sl vargs).length ≤ maxL)
    (body : ∀ (p : Program) (e : Env) (s : State) (m : MethodId) (args : Array Value) (below : List Frame) (meth : Method) (c : Code), V p l e rm s m args below meth c (QV below D N G post args s 0 0) D E (AG N G s.heap.size) cc maxL y.cls ret ws N G 0 0 Φ 0 (lv_args 0 vargs) []) : Con l y ws rm D E N G Φ vargs post := by
  intro sz
  refine va_MetF (cc := cc) (maxL := maxL) (ret := ret) hy hw ?_
  intro p e s m args below meth c s₁ B hml hv
  obtain ⟨rfl, hsz, hP, hK, hD0, hZ⟩ := hv
  subst hsz
  have hts := atoms_spec (ws := ws) B.pre
  have hown : s.vm.findClass y.cls = some m.cls := findClass_of_methodNamed B.named
  have hl := lv_entry vargs (n := maxL) hlen
  rw [lg_entry_eq]
  exact body p e s m vargs.toArray below meth c ⟨⟨B.exec, B.bytes, hml, hown, hts⟩, hK, fun q h => Or.inr h, B.notSynchronized, B.returns, hZ⟩ s.heap [] _ hP (wl_D hD0 (fun n hn => Or.inl ⟨n, hn, rfl⟩)) va_S.rf hl
section RK
variable {l : Launch} {y : MethodName} {ws ws' : List Cond} {rm : Room} {D : va_G} {E : Nat → ClassId} {N : Nat} {G : Nat → Nat} {shp : Nat → (Nat → Int32) → va_E} {σ : Nat → Nat → Int32} {vargs : List Value} {cc : ByteArray} {maxL : Nat} {ret : Option FieldType}
theorem CS.ofF {v : Option Value} {σ' : Nat → Nat → Int32} (hy : plainFor y = true) (hw : ws = Cond.code y cc maxL ret :: ws') (hlen : (lg_sl vargs).length ≤ maxL)
    (body : ∀ (p : Program) (e : Env) (s : State) (m : MethodId) (args : Array Value) (below : List Frame) (meth : Method) (c : Code), V p l e rm s m args below meth c (QV below D N G (fun v' Φ' => v' = v ∧ Φ' = φ shp σ') args s 0 0) D E (AG N G s.heap.size) cc maxL y.cls ret ws N G 0 0 (φ shp σ) 0 (lv_args 0 vargs) []) : CS l y ws rm D E N G shp σ vargs v σ' := con_ofF hy hw hlen body
end RK
section IX
variable {p : Program} {l : Launch} {e : Env} {R : Room} {s : State} {m : MethodId} {args : Array Value} {below : List Frame} {meth : Method} {c : Code} {Q : State → Prop} {D : va_G} {E : Nat → ClassId} {A : Nat → Prop} {cc : ByteArray} {nL : Nat} {own : String} {ret : Option FieldType} {Ts : List Cond} {N : Nat} {G : Nat → Nat} {cells slots : Nat} {Φ : Nat → va_E} {pc : Nat} {loc : List (Nat × Value)} {st : List Value}
theorem v_ixor {x y : Int32} (hdg : decode cc pc = .ok (.ixor, 1)) (kk : V p l e R s m args below meth c Q D E A cc nL own ret Ts N G cells slots Φ (pc + 1) loc (.int (x ^^^ y) :: st)) : V p l e R s m args below meth c Q D E A cc nL own ret Ts N G cells slots Φ pc loc (.int y :: .int x :: st) := fun o H locs ls hP hD hS hl => lv_ixor o.1.1 o.1.2.1 hdg (kk o H locs ls hP hD hS hl)
end IX
theorem xor_pos {u : Nat} (hu : u < 2 ^ 30) : 0 ≤ nI u ^^^ nI 14 := by
  have e : nI u ^^^ nI 14 = nI (u ^^^ 14) := by
    apply Int32.toBitVec_inj.mp
    show (BitVec.ofNat 32 u) ^^^ (BitVec.ofNat 32 14) = BitVec.ofNat 32 (u ^^^ 14)
    apply BitVec.eq_of_toNat_eq
    rw [BitVec.toNat_xor, BitVec.toNat_ofNat, BitVec.toNat_ofNat, BitVec.toNat_ofNat, Nat.mod_eq_of_lt (by omega : u < 2 ^ 32), Nat.mod_eq_of_lt (by omega : 14 < 2 ^ 32), Nat.mod_eq_of_lt]
    exact Nat.xor_lt_two_pow (by omega) (by omega)
  rw [e]
  exact nI_pos' (Nat.lt_of_lt_of_le (Nat.xor_lt_two_pow (n := 30) hu (by omega)) (by omega))
set_option maxHeartbeats 4000000 in
set_option maxRecDepth 100000 in
theorem c_J9_floorMod (lu : Launch) (Dg : va_G) (E : Nat → ClassId) (N : Nat) (G : Nat → Nat) (shp : Nat → (Nat → Int32) → va_E) (σ : Nat → Nat → Int32) {u : Nat} (hu : u < 2 ^ 30) : CS lu yJ9_floorMod_7cf53 wsJ9_floorMod_7cf53 { frames := 0, cells := 0, slots := 0, locals := 0 } Dg E N G shp σ [.int (nI u), .int (nI 14)] (some (.int (nI (u % 14)))) σ := by
  refine CS.ofF (cc := cJ9_floorMod_7cf53) (maxL := 3) (ret := (some .int)) (by decide +kernel) rfl (Nat.le_of_ble_eq_true rfl) ?_
  intro p_ e_ s_ m_ args_ below_ meth_ c_
  refine v_eq (pc' := 0) (st' := []) rfl rfl ?_
  refine v_loc [0, 1] [(0, .int (nI u)), (1, .int (nI 14))] rfl ?_
  have hm14 : u % 14 < 14 := Nat.mod_lt _ (by omega)
  refine v_iload_n 0 dJ9_floorMod_7cf53_0 rfl rfl ?_
  refine v_iload_n 1 dJ9_floorMod_7cf53_1 rfl rfl ?_
  refine v_iremN (by omega) (by omega) (by omega) dJ9_floorMod_7cf53_2 ?_
  refine v_istore_n [(2, .int (nI (u % 14))), (0, .int (nI u)), (1, .int (nI 14))] dJ9_floorMod_7cf53_3 rfl (by decide) rfl ?_
  refine v_iload_n 1 dJ9_floorMod_7cf53_4 rfl rfl ?_
  refine v_iload_n 2 dJ9_floorMod_7cf53_5 rfl rfl ?_
  refine v_ixor dJ9_floorMod_7cf53_6 ?_
  refine v_if_ge 18 dJ9_floorMod_7cf53_7 rfl (fun h7 => ?_) (fun h7 => ?_)
  · refine v_iload_n 0 dJ9_floorMod_7cf53_18 rfl rfl ?_
    refine v_iret rfl dJ9_floorMod_7cf53_19 ⟨rfl, rfl⟩
  · refine v_iload_n 0 dJ9_floorMod_7cf53_10 rfl rfl ?_
    refine v_if_eqN 18 (by omega) dJ9_floorMod_7cf53_11 rfl (fun h11 => ?_) (fun h11 => ?_)
    · refine v_iload_n 0 dJ9_floorMod_7cf53_18 rfl rfl ?_
      refine v_iret rfl dJ9_floorMod_7cf53_19 ⟨rfl, rfl⟩
    · exfalso
      exact h7 (xor_pos hu)
/-- the states that are remembered: 14 halls, from x + 2 on -/
def HistS (E : Nat → ClassId) (G : Nat → Nat) (shp : Nat → (Nat → Int32) → va_E) (N x : Nat) : Prop := x + 1 < N ∧ shp x = ObS G 2 (ksHist x) ∧ shp (x + 1) = ReS E G 6 14 (fun i => x + 2 + 43 * i) ∧ ∀ i, i < 14 → HallS E G shp N (x + 2 + 43 * i)
set_option maxRecDepth 100000 in
theorem inX2_stateAt_X2 : ∀ w ∈ wsX20, w ∈ wsX2_stateAt := by decide +kernel
set_option maxHeartbeats 4000000 in
set_option maxRecDepth 100000 in
/-- History.stateAt -/
theorem c_X2_stateAt (lu : Launch) (Dg : va_G) (E : Nat → ClassId) (N : Nat) (G : Nat → Nat) (shp : Nat → (Nat → Int32) → va_E) (σ : Nat → Nat → Int32)  {x : Nat} (hX : HistS E G shp N x) {oz az : Nat} (ho : σ x 1 = nI oz) (ho14 : oz < 14) (ha14 : az ≤ 14)  : CS lu yX2_stateAt wsX2_stateAt { frames := 1, cells := 0, slots := 0, locals := 30 } Dg E N G shp σ [.ref (G x), .int (nI az)] (some (.ref (G (x + 2 + 43 * ((oz + az) % 14))))) σ := by
  refine CS.of (cc := cX2_stateAt) (maxL := 2) (ret := (some (.object "StoodMinutes$Hall"))) (by decide) rfl (Nat.le_of_ble_eq_true rfl) ?_
  intro p_ e_ s_ m_ args_ below_ meth_ c_
  refine v_eq (pc' := 0) (st' := []) rfl rfl ?_
  refine v_loc [0, 1] [(0, .ref (G x)), (1, .int (nI az))] rfl ?_
  refine v_aload_n 0 dX2_stateAt_0 rfl rfl ?_
  refine u_getr (k := 0) (C := RX2) (T := TX2) (NF := 3) (Nat.lt_of_succ_lt hX.1) hX.2.1 rfl rfl inX2_stateAt_X2 (by decide) (by decide +kernel) rfl dX2_stateAt_1 ?_
  refine v_aload_n 0 dX2_stateAt_4 rfl rfl ?_
  refine u_geti (k := 1) (C := RX2) (T := TX2) (NF := 3) (Nat.lt_of_succ_lt hX.1) hX.2.1 rfl rfl inX2_stateAt_X2 (by decide) (by decide +kernel) rfl dX2_stateAt_5 ?_
  refine v_topi (nI oz) (ho) ?_
  refine v_iload_n 1 dX2_stateAt_8 rfl rfl ?_
  refine v_iaddN dX2_stateAt_9 ?_
  refine v_bipush (nI 14) dX2_stateAt_10 (by decide +kernel) ?_
  refine u_callSv [.int (nI (oz + az)), .int (nI 14)] [.ref (G (x + 1))] 2 (c_J9_floorMod lu Dg E N G shp σ (u := oz + az) (by omega)) gX2_stateAt_J9_floorMod_7cf53 rfl rfl rfl (by decide +kernel) rfl ⟨Nat.le_of_ble_eq_true rfl, Nat.le_of_ble_eq_true rfl⟩ ⟨Nat.le_of_ble_eq_true rfl, Nat.le_of_ble_eq_true rfl⟩ (Nat.le_of_ble_eq_true rfl) rfl dX2_stateAt_12 ?_
  refine u_aald 6 ((oz + az) % 14) hX.1 hX.2.2.1 rfl rfl (by omega) (by decide) dX2_stateAt_15 ?_
  refine v_aret rfl dX2_stateAt_16 ⟨rfl, congrArg (φ shp) ?_⟩
  · rfl
set_option maxRecDepth 100000 in
theorem inX2_isEmpty_X2 : ∀ w ∈ wsX20, w ∈ wsX2_isEmpty := by decide +kernel
set_option maxHeartbeats 4000000 in
set_option maxRecDepth 100000 in
/-- History.isEmpty -/
theorem c_X2_isEmpty (lu : Launch) (Dg : va_G) (E : Nat → ClassId) (N : Nat) (G : Nat → Nat) (shp : Nat → (Nat → Int32) → va_E) (σ : Nat → Nat → Int32)  {x : Nat} (hX : HistS E G shp N x) {rz : Nat} (hr : σ x 2 = nI rz) (hr14 : rz ≤ 14)  : CS lu yX2_isEmpty wsX2_isEmpty { frames := 0, cells := 0, slots := 0, locals := 0 } Dg E N G shp σ [.ref (G x)] (some (.int (bi (rz = 0)))) σ := by
  refine CS.of (cc := cX2_isEmpty) (maxL := 1) (ret := (some .boolean)) (by decide) rfl (Nat.le_of_ble_eq_true rfl) ?_
  intro p_ e_ s_ m_ args_ below_ meth_ c_
  refine v_eq (pc' := 0) (st' := []) rfl rfl ?_
  refine v_loc [0] [(0, .ref (G x))] rfl ?_
  refine v_aload_n 0 dX2_isEmpty_0 rfl rfl ?_
  refine u_geti (k := 2) (C := RX2) (T := TX2) (NF := 3) (Nat.lt_of_succ_lt hX.1) hX.2.1 rfl rfl inX2_isEmpty_X2 (by decide) (by decide +kernel) rfl dX2_isEmpty_1 ?_
  refine v_topi (nI rz) (hr) ?_
  refine v_if_neN 11 (by omega) dX2_isEmpty_4 rfl (fun h4 => ?_) (fun h4 => ?_)
  · skip
    refine v_iconst (nI 0) dX2_isEmpty_11 (by decide +kernel) ?_
    refine v_zret rfl (by decide +kernel) dX2_isEmpty_12 ⟨congrArg (fun z => some (Value.int z)) ?_, congrArg (φ shp) ?_⟩
    · exact bi_nf (by omega)
    · rfl
  · skip
    refine v_iconst (nI 1) dX2_isEmpty_7 (by decide +kernel) ?_
    refine v_goto 12 dX2_isEmpty_8 rfl ?_
    refine v_zret rfl (by decide +kernel) dX2_isEmpty_12 ⟨congrArg (fun z => some (Value.int z)) ?_, congrArg (φ shp) ?_⟩
    · exact bi_nt (by omega)
    · rfl
def HoldsAt (σ : Nat → Nat → Int32) (b : Nat) (c : Nat → Int32) : Prop := hs σ b c = σ
/-- one state more is remembered -/
def remS (σ : Nat → Nat → Int32) (x b : Nat) (c : Nat → Int32) (o r : Nat) : Nat → Nat → Int32 := if r < 14 then st2 (hs (hs σ b c) (x + 2 + 43 * ((o + r) % 14)) c) x 2 (nI (r + 1)) else st2 (hs (hs σ b c) (x + 2 + 43 * ((o + r) % 14)) c) x 1 (nI ((o + 1) % 14))
theorem CS.preS {l : Launch} {y : MethodName} {ws : List Cond} {rm : Room} {D : va_G} {E : Nat → ClassId} {N : Nat} {G : Nat → Nat} {shp : Nat → (Nat → Int32) → va_E} {σ τ σ' τ' : Nat → Nat → Int32} {vargs : List Value} {v : Option Value} (h : CS l y ws rm D E N G shp τ vargs v τ') (e : σ = τ) (e' : τ' = σ') : CS l y ws rm D E N G shp σ vargs v σ' := by
  rw [e, ← e']; exact h
set_option maxRecDepth 100000 in
theorem inX2_remember_X2 : ∀ w ∈ wsX20, w ∈ wsX2_remember := by decide +kernel
set_option maxHeartbeats 4000000 in
set_option maxRecDepth 100000 in
/-- History.remember -/
theorem c_X2_remember (lu : Launch) (Dg : va_G) (E : Nat → ClassId) (N : Nat) (G : Nat → Nat) (shp : Nat → (Nat → Int32) → va_E) (σ : Nat → Nat → Int32)  {x : Nat} (hX : HistS E G shp N x) {b : Nat} (hH : HallS E G shp N b) (c : Nat → Int32) {oz rz : Nat} (ho : σ x 1 = nI oz) (ho14 : oz < 14) (hr : σ x 2 = nI rz) (hr14 : rz ≤ 14) (hap : ∀ i, i < 14 → b + 43 ≤ x + 2 + 43 * i ∨ x + 2 + 43 * i + 43 ≤ b) (hap0 : x + 2 ≤ b ∨ b + 43 ≤ x) (hold : ∀ i, i < 14 → ∃ d, HoldsAt σ (x + 2 + 43 * i) d)  : CS lu yX2_remember wsX2_remember { frames := 3, cells := 0, slots := 0, locals := 83 } Dg E N G shp (hs σ b c) [.ref (G x), .ref (G b)] none (remS σ x b c oz rz) := by
  refine CS.of (cc := cX2_remember) (maxL := 2) (ret := none) (by decide) rfl (Nat.le_of_ble_eq_true rfl) ?_
  intro p_ e_ s_ m_ args_ below_ meth_ c_
  refine v_eq (pc' := 0) (st' := []) rfl rfl ?_
  refine v_loc [0, 1] [(0, .ref (G x)), (1, .ref (G b))] rfl ?_
  obtain ⟨dz, hdz⟩ := hold ((oz + rz) % 14) (Nat.mod_lt _ (by omega))
  have hb2 := hap ((oz + rz) % 14) (Nat.mod_lt _ (by omega))
  have hxo := hap0
  have e1 : (hs σ b c) x 1 = nI oz := by rw [hs_out (by omega)]; exact ho
  have e2 : (hs σ b c) x 2 = nI rz := by rw [hs_out (by omega)]; exact hr
  refine v_aload_n 0 dX2_remember_0 rfl rfl ?_
  refine v_aload_n 0 dX2_remember_1 rfl rfl ?_
  refine u_geti (k := 2) (C := RX2) (T := TX2) (NF := 3) (Nat.lt_of_succ_lt hX.1) hX.2.1 rfl rfl inX2_remember_X2 (by decide) (by decide +kernel) rfl dX2_remember_2 ?_
  refine v_topi (nI rz) (e2) ?_
  refine u_callVv [.int (nI rz)] [] 1 (c_X2_stateAt lu Dg E N G shp (hs σ b c) hX (oz := oz) (az := rz) e1 ho14 hr14) (ci := 2) (C := RX2) (T := TX2) (NF := 3) (Nat.lt_of_succ_lt hX.1) hX.2.1 rfl gX2_remember_X2_stateAt rfl rfl rfl (by decide +kernel) rfl ⟨Nat.le_of_ble_eq_true rfl, Nat.le_of_ble_eq_true rfl⟩ ⟨Nat.le_of_ble_eq_true rfl, Nat.le_of_ble_eq_true rfl⟩ (Nat.le_of_ble_eq_true rfl) rfl dX2_remember_5 ?_
  refine v_aload_n 1 dX2_remember_8 rfl rfl ?_
  refine u_callVn [.ref (G b)] [] 1 ((c_X1_copyFrom lu Dg E N G shp σ (b := x + 2 + 43 * ((oz + rz) % 14)) (hX.2.2.2 ((oz + rz) % 14) (Nat.mod_lt _ (by omega))) (o := b) hH (by omega) dz c).preS (by rw [hdz]) rfl) (ci := 1) (C := RX1) (T := TX1) (NF := 11) (hX.2.2.2 ((oz + rz) % 14) (Nat.mod_lt _ (by omega))).n (hX.2.2.2 ((oz + rz) % 14) (Nat.mod_lt _ (by omega))).s rfl gX2_remember_X1_copyFrom rfl rfl rfl (by decide +kernel) rfl ⟨Nat.le_of_ble_eq_true rfl, Nat.le_of_ble_eq_true rfl⟩ ⟨Nat.le_of_ble_eq_true rfl, Nat.le_of_ble_eq_true rfl⟩ (Nat.le_of_ble_eq_true rfl) rfl dX2_remember_9 ?_
  refine v_aload_n 0 dX2_remember_12 rfl rfl ?_
  refine u_geti (k := 2) (C := RX2) (T := TX2) (NF := 3) (Nat.lt_of_succ_lt hX.1) hX.2.1 rfl rfl inX2_remember_X2 (by decide) (by decide +kernel) rfl dX2_remember_13 ?_
  refine v_topi (nI rz) ((by rw [hs_out (by omega)]; exact e2)) ?_
  refine v_bipush (nI 14) dX2_remember_16 (by decide +kernel) ?_
  refine v_icmp_geN 34 (by omega) (by omega) dX2_remember_18 rfl (fun h18 => ?_) (fun h18 => ?_)
  · skip
    refine v_aload_n 0 dX2_remember_34 rfl rfl ?_
    refine v_aload_n 0 dX2_remember_35 rfl rfl ?_
    refine u_geti (k := 1) (C := RX2) (T := TX2) (NF := 3) (Nat.lt_of_succ_lt hX.1) hX.2.1 rfl rfl inX2_remember_X2 (by decide) (by decide +kernel) rfl dX2_remember_36 ?_
    refine v_topi (nI oz) ((by rw [hs_out (by omega)]; exact e1)) ?_
    refine v_iconst (nI 1) dX2_remember_39 (by decide +kernel) ?_
    refine v_iaddN dX2_remember_40 ?_
    refine v_bipush (nI 14) dX2_remember_41 (by decide +kernel) ?_
    refine v_iremN (by omega) (by omega) (by omega) dX2_remember_43 ?_
    refine u_puti (k := 1) (C := RX2) (T := TX2) (NF := 3) (ty := .int) (Nat.lt_of_succ_lt hX.1) hX.2.1 rfl rfl inX2_remember_X2 tyX2 tyX2_ok nmX2 (by decide) (by decide +kernel) rfl rfl (by decide +kernel) rfl rfl dX2_remember_44 ?_
    generalize hσ1 : st2 (hs (hs σ b c) (x + 2 + 43 * ((oz + rz) % 14)) c) x 1 (nI ((oz + 1) % 14)) = σ1
    refine v_vret rfl dX2_remember_47 ⟨rfl, congrArg (φ shp) ?_⟩
    · (first | subst hσ2 | subst hσ1); unfold remS; first | rw [if_pos (by omega)] | (rw [if_neg (by omega)])
  · skip
    refine v_aload_n 0 dX2_remember_21 rfl rfl ?_
    refine v_dup dX2_remember_22 rfl ?_
    refine u_geti (k := 2) (C := RX2) (T := TX2) (NF := 3) (Nat.lt_of_succ_lt hX.1) hX.2.1 rfl rfl inX2_remember_X2 (by decide) (by decide +kernel) rfl dX2_remember_23 ?_
    refine v_topi (nI rz) ((by rw [hs_out (by omega)]; exact e2)) ?_
    refine v_iconst (nI 1) dX2_remember_26 (by decide +kernel) ?_
    refine v_iaddN dX2_remember_27 ?_
    refine u_puti (k := 2) (C := RX2) (T := TX2) (NF := 3) (ty := .int) (Nat.lt_of_succ_lt hX.1) hX.2.1 rfl rfl inX2_remember_X2 tyX2 tyX2_ok nmX2 (by decide) (by decide +kernel) rfl rfl (by decide +kernel) rfl rfl dX2_remember_28 ?_
    generalize hσ2 : st2 (hs (hs σ b c) (x + 2 + 43 * ((oz + rz) % 14)) c) x 2 (nI (rz + 1)) = σ2
    refine v_goto 47 dX2_remember_31 rfl ?_
    refine v_vret rfl dX2_remember_47 ⟨rfl, congrArg (φ shp) ?_⟩
    · (first | subst hσ2 | subst hσ1); unfold remS; first | rw [if_pos (by omega)] | (rw [if_neg (by omega)])
set_option maxRecDepth 100000 in
theorem inX2_takeBack_X2 : ∀ w ∈ wsX20, w ∈ wsX2_takeBack := by decide +kernel
set_option maxHeartbeats 4000000 in
set_option maxRecDepth 100000 in
/-- History.takeBack -/
theorem c_X2_takeBack (lu : Launch) (Dg : va_G) (E : Nat → ClassId) (N : Nat) (G : Nat → Nat) (shp : Nat → (Nat → Int32) → va_E) (σ : Nat → Nat → Int32)  {x : Nat} (hX : HistS E G shp N x) {b : Nat} (hH : HallS E G shp N b) (c d : Nat → Int32) {oz rz : Nat} (ho : σ x 1 = nI oz) (ho14 : oz < 14) (hr : σ x 2 = nI (rz + 1)) (hr14 : rz < 14) (hap : ∀ i, i < 14 → b + 43 ≤ x + 2 + 43 * i ∨ x + 2 + 43 * i + 43 ≤ b) (hap0 : x + 2 ≤ b ∨ b + 43 ≤ x) (hold : HoldsAt σ (x + 2 + 43 * ((oz + rz) % 14)) d)  : CS lu yX2_takeBack wsX2_takeBack { frames := 3, cells := 0, slots := 0, locals := 83 } Dg E N G shp (hs σ b c) [.ref (G x), .ref (G b)] (some (.int (nI rz))) (hs (st2 σ x 2 (nI rz)) b d) := by
  refine CS.of (cc := cX2_takeBack) (maxL := 2) (ret := (some .int)) (by decide) rfl (Nat.le_of_ble_eq_true rfl) ?_
  intro p_ e_ s_ m_ args_ below_ meth_ c_
  refine v_eq (pc' := 0) (st' := []) rfl rfl ?_
  refine v_loc [0, 1] [(0, .ref (G x)), (1, .ref (G b))] rfl ?_
  have hb2 := hap ((oz + rz) % 14) (Nat.mod_lt _ (by omega))
  have hxo := hap0
  have e1 : (hs σ b c) x 1 = nI oz := by rw [hs_out (by omega)]; exact ho
  have e2 : (hs σ b c) x 2 = nI (rz + 1) := by rw [hs_out (by omega)]; exact hr
  have hold2 : hs (st2 σ x 2 (nI rz)) (x + 2 + 43 * ((oz + rz) % 14)) d = st2 σ x 2 (nI rz) := by
    funext n9; unfold st2
    by_cases en : n9 = x
    · subst en; rw [hs_out (by omega), va_up_self]
    · by_cases h2 : n9 < x + 2 + 43 * ((oz + rz) % 14) ∨ (x + 2 + 43 * ((oz + rz) % 14) + 2 ≤ n9 ∧ n9 < x + 2 + 43 * ((oz + rz) % 14) + 7) ∨ x + 2 + 43 * ((oz + rz) % 14) + 43 ≤ n9
      · rw [hs_out h2]
      · rw [va_up_ne _ _ en]; have h3 := congrFun hold n9; rw [← h3]; exact hs_cell h2
  refine v_aload_n 0 dX2_takeBack_0 rfl rfl ?_
  refine u_callVv [] [] 0 (c_X2_isEmpty lu Dg E N G shp (hs σ b c) hX (rz := rz + 1) e2 (by omega)) (ci := 2) (C := RX2) (T := TX2) (NF := 3) (Nat.lt_of_succ_lt hX.1) hX.2.1 rfl gX2_takeBack_X2_isEmpty rfl rfl rfl (by decide +kernel) rfl ⟨Nat.le_of_ble_eq_true rfl, Nat.le_of_ble_eq_true rfl⟩ ⟨Nat.le_of_ble_eq_true rfl, Nat.le_of_ble_eq_true rfl⟩ (Nat.le_of_ble_eq_true rfl) rfl dX2_takeBack_1 ?_
  refine v_if_eqB 9 dX2_takeBack_4 rfl (fun h4 => ?_) (fun h4 => ?_)
  · skip
    refine v_aload_n 0 dX2_takeBack_9 rfl rfl ?_
    refine v_dup dX2_takeBack_10 rfl ?_
    refine u_geti (k := 2) (C := RX2) (T := TX2) (NF := 3) (Nat.lt_of_succ_lt hX.1) hX.2.1 rfl rfl inX2_takeBack_X2 (by decide) (by decide +kernel) rfl dX2_takeBack_11 ?_
    refine v_topi (nI (rz + 1)) (e2) ?_
    refine v_iconst (nI 1) dX2_takeBack_14 (by decide +kernel) ?_
    refine v_isubN (by omega) dX2_takeBack_15 ?_
    refine v_topi (nI rz) (congrArg nI (by omega)) ?_
    refine u_puti (k := 2) (C := RX2) (T := TX2) (NF := 3) (ty := .int) (Nat.lt_of_succ_lt hX.1) hX.2.1 rfl rfl inX2_takeBack_X2 tyX2 tyX2_ok nmX2 (by decide) (by decide +kernel) rfl rfl (by decide +kernel) rfl rfl dX2_takeBack_16 ?_
    generalize hσ1 : st2 (hs σ b c) x 2 (nI rz) = σ1
    have e3 : st2 (hs σ b c) x 2 (nI rz) = hs (st2 σ x 2 (nI rz)) b c := by
      funext n9; unfold st2
      by_cases en : n9 = x
      · subst en; rw [va_up_self, hs_out (by omega), hs_out (by omega), va_up_self]
      · rw [va_up_ne _ _ en]; by_cases h2 : n9 < b ∨ (b + 2 ≤ n9 ∧ n9 < b + 7) ∨ b + 43 ≤ n9
        · rw [hs_out h2, hs_out h2, va_up_ne _ _ en]
        · exact hs_cell h2
    subst hσ1
    refine v_σ (hs (st2 σ x 2 (nI rz)) b c) e3 ?_
    refine v_aload_n 1 dX2_takeBack_19 rfl rfl ?_
    refine v_aload_n 0 dX2_takeBack_20 rfl rfl ?_
    refine v_aload_n 0 dX2_takeBack_21 rfl rfl ?_
    refine u_geti (k := 2) (C := RX2) (T := TX2) (NF := 3) (Nat.lt_of_succ_lt hX.1) hX.2.1 rfl rfl inX2_takeBack_X2 (by decide) (by decide +kernel) rfl dX2_takeBack_22 ?_
    refine v_topi (nI rz) ((by rw [hs_out (by omega), st2_same])) ?_
    refine u_callVv [.int (nI rz)] [.ref (G b)] 1 (c_X2_stateAt lu Dg E N G shp (hs (st2 σ x 2 (nI rz)) b c) hX (oz := oz) (az := rz) (by rw [hs_out (by omega), st2_eq, if_neg (by omega)]; exact ho) ho14 (by omega)) (ci := 2) (C := RX2) (T := TX2) (NF := 3) (Nat.lt_of_succ_lt hX.1) hX.2.1 rfl gX2_takeBack_X2_stateAt rfl rfl rfl (by decide +kernel) rfl ⟨Nat.le_of_ble_eq_true rfl, Nat.le_of_ble_eq_true rfl⟩ ⟨Nat.le_of_ble_eq_true rfl, Nat.le_of_ble_eq_true rfl⟩ (Nat.le_of_ble_eq_true rfl) rfl dX2_takeBack_25 ?_
    refine u_callVn [.ref (G (x + 2 + 43 * ((oz + rz) % 14)))] [] 1 ((c_X1_copyFrom lu Dg E N G shp (st2 σ x 2 (nI rz)) (b := b) hH (o := x + 2 + 43 * ((oz + rz) % 14)) (hX.2.2.2 ((oz + rz) % 14) (Nat.mod_lt _ (by omega))) (by omega) c d).preS (by rw [hs_comm (by omega), hold2]) (by rw [hold2])) (ci := 1) (C := RX1) (T := TX1) (NF := 11) hH.n hH.s rfl gX2_takeBack_X1_copyFrom rfl rfl rfl (by decide +kernel) rfl ⟨Nat.le_of_ble_eq_true rfl, Nat.le_of_ble_eq_true rfl⟩ ⟨Nat.le_of_ble_eq_true rfl, Nat.le_of_ble_eq_true rfl⟩ (Nat.le_of_ble_eq_true rfl) rfl dX2_takeBack_28 ?_
    refine v_aload_n 0 dX2_takeBack_31 rfl rfl ?_
    refine u_geti (k := 2) (C := RX2) (T := TX2) (NF := 3) (Nat.lt_of_succ_lt hX.1) hX.2.1 rfl rfl inX2_takeBack_X2 (by decide) (by decide +kernel) rfl dX2_takeBack_32 ?_
    refine v_topi (nI rz) ((by rw [hs_out (by omega), st2_same])) ?_
    refine v_iret rfl dX2_takeBack_35 ⟨congrArg (fun z => some (Value.int z)) ?_, congrArg (φ shp) ?_⟩
    · rfl
    · rfl
  · skip
    omega
